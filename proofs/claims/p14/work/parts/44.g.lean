/-! 5g.chs -/
section
set_option maxHeartbeats 40000000 in
set_option maxRecDepth 100000 in
theorem f_X5_set (l : Launch) (dC : Nat → ClassId) (dI : Nat → Nat → Nat) (cI cS : ClassId) (sz : Nat) (nu : Nat) (au : Nat) (cap : Nat) (lu : Int32) (fu : Nat → Int32) (i : Int32) (v : Int32) (g_lu : 0 ≤ lu.toInt ∧ lu.toInt ≤ (cap : Int)) (hcap : cap ≤ 2400) : Met l yX5_set wsX5_set ({ frames := 0, cells := 0, slots := 0, locals := 0 } : Room) (va_Pc [.ref nu, .int i, .int v] (fun U => U.heap.size = sz ∧ va_P (dC, dI) vwCl [(nu, .inr (5, [.ref au, .int lu])), (au, .inl (cI, cap, .inl fu))] U.heap ∧ va_K (dC, dI) vwCl [(cI, .int), (cS, .short)] U ∧ va_D (fun _ => True) [(nu, .inr (5, [.ref au, .int lu])), (au, .inl (cI, cap, .inl fu))])) (va_Qv (fun (_ : Unit) => True) (fun _ t => ∃ (fu' : Nat → Int32), va_P (dC, dI) vwCl [(nu, .inr (5, [.ref au, .int lu])), (au, .inl (cI, cap, .inl fu'))] t.heap ∧ va_D (va_A [(nu, .inr (5, [.ref au, .int lu])), (au, .inl (cI, cap, .inl fu))] sz) [(nu, .inr (5, [.ref au, .int lu])), (au, .inl (cI, cap, .inl fu'))] ∧ (F_set lu i v fu fu')) (va_A [(nu, .inr (5, [.ref au, .int lu])), (au, .inl (cI, cap, .inl fu))] sz)) 0 0 (va_A [(nu, .inr (5, [.ref au, .int lu])), (au, .inl (cI, cap, .inl fu))] sz) := by
  refine Met.ofW (cc := cX5_set) (maxL := 3) (ret := none) (by decide) rfl ?_
  intro p e s m args below meth c s₁ B hml hv
  obtain ⟨rfl, hsz, hP, hK, hD0⟩ := hv
  have hx := B.exec
  have hb := B.bytes
  have hr := B.returns
  have hts := atoms_spec (ws := wsX5_set) B.pre
  have hown : s.vm.findClass RX5 = some m.cls := findClass_of_methodNamed B.named
  have hlocks := B.notSynchronized
  have in_X5 : ∀ w ∈ wsX50, w ∈ wsX5_set := fun _ h => List.mem_cons_of_mem _ (List.mem_append_right _ (h))
  subst hsz
  have hD := hD0.self (sz := s.heap.size)
  generalize hAe : va_A [(nu, .inr (5, [.ref au, .int lu])), (au, .inl (cI, cap, .inl fu))] s.heap.size = A at hD ⊢
  have hA : ∀ q : Nat, s.heap.size ≤ q → A q := fun q h => by rw [← hAe]; exact Or.inr h
  have hS : va_S A s.heap s.heap [] := va_S.rf
  have hP : va_P (dC, dI) vwCl [(nu, .inr (5, [.ref au, .int lu])), (au, .inl (cI, cap, .inl fu))] s.heap := hP
  have hl := lv_entry ([.ref nu, .int i, .int v]) (n := 3) (Nat.le_of_ble_eq_true rfl)
  rw [lg_entry_eq]
  generalize (lg_sl ([.ref nu, .int i, .int v]) ++ List.replicate (3 - (lg_sl ([.ref nu, .int i, .int v])).length) Slot.unset).toArray = ls at hl ⊢
  have hl : lv_has ls 3 [(0, .ref nu), (1, .int i), (2, .int v)] := hl
  obtain ⟨QQ, hQQ⟩ : ∃ QQ : Array Value → State → Outcome → State → Prop, QQ = va_Qv (fun (_ : Unit) => True) (fun _ t => ∃ (fu' : Nat → Int32), va_P (dC, dI) vwCl [(nu, .inr (5, [.ref au, .int lu])), (au, .inl (cI, cap, .inl fu'))] t.heap ∧ va_D A [(nu, .inr (5, [.ref au, .int lu])), (au, .inl (cI, cap, .inl fu'))] ∧ (F_set lu i v fu fu')) A := ⟨_, rfl⟩
  rw [← hQQ]
  refine lv_iload_n hx hb dX5_set_0 rfl (lv_at hl 1 rfl) ?_
  refine lv_if_lt (tgt := 19) hx hb dX5_set_1 (by decide) (fun c_1 => ?_) (fun c_1 => ?_)
  · have tc_1 : i.toInt < 0 := v_lt c_1
    have hP9 := hP.sub (ws' := [(nu, .inr (5, [.ref au, .int lu])), (au, .inl (cI, cap, .inl fu))]) [0, 1] rfl
    have hD9 := hD.sub (ws' := [(nu, .inr (5, [.ref au, .int lu])), (au, .inl (cI, cap, .inl fu))]) [0, 1] (by decide +kernel) rfl
    rw [hQQ]
    exact W.vret hx hb hr (fun t ht hW => ⟨⟨(), rfl, trivial, ⟨fu, by rw [ht]; exact hP9, hD9, Or.inr ⟨by omega, rfl⟩⟩⟩, hS.F ht⟩) hS.2.2 dX5_set_19
  · have tc_1 : 0 ≤ i.toInt := v_nlt c_1
    refine lv_iload_n hx hb dX5_set_4 rfl (lv_at hl 1 rfl) ?_
    refine lv_aload_n hx hb dX5_set_5 rfl (lv_at hl 0 rfl) ?_
    refine va_get (D := (dC, dI)) (ci := 5) (v := .int lu) (C := RX5) (T := TX5) (N := 2) hx hb hts in_X5 hown hK hP 0 rfl rfl 1 (by decide) (hts (.fieldLink RX5 21 "TextMender$Numbers" "length" "I") (List.mem_of_getElem? (i := 1) rfl)) (fun _ h9 => h9) rfl dX5_set_6 ?_
    refine lv_icmp_ge (tgt := 19) hx hb dX5_set_9 (by decide) (fun c_2 => ?_) (fun c_2 => ?_)
    · have tc_2 : lu.toInt ≤ i.toInt := v_le c_2
      have rw2_0 := v_rng i
      have hP9 := hP.sub (ws' := [(nu, .inr (5, [.ref au, .int lu])), (au, .inl (cI, cap, .inl fu))]) [0, 1] rfl
      have hD9 := hD.sub (ws' := [(nu, .inr (5, [.ref au, .int lu])), (au, .inl (cI, cap, .inl fu))]) [0, 1] (by decide +kernel) rfl
      rw [hQQ]
      exact W.vret hx hb hr (fun t ht hW => ⟨⟨(), rfl, trivial, ⟨fu, by rw [ht]; exact hP9, hD9, Or.inr ⟨by omega, rfl⟩⟩⟩, hS.F ht⟩) hS.2.2 dX5_set_19
    · have tc_2 : i.toInt < lu.toInt := v_nle c_2
      have rw2_0 := v_rng i
      refine lv_aload_n hx hb dX5_set_12 rfl (lv_at hl 0 rfl) ?_
      refine va_get (D := (dC, dI)) (ci := 5) (v := .ref au) (C := RX5) (T := TX5) (N := 2) hx hb hts in_X5 hown hK hP 0 rfl rfl 0 (by decide) (hts (.fieldLink RX5 15 "TextMender$Numbers" "numbers" "[I") (List.mem_of_getElem? (i := 2) rfl)) (fun _ h9 => h9) rfl dX5_set_13 ?_
      refine lv_iload_n hx hb dX5_set_16 rfl (lv_at hl 1 rfl) ?_
      refine lv_iload_n hx hb dX5_set_17 rfl (lv_at hl 2 rfl) ?_
      refine va_iast hx hb hK hP hD hS 1 0 rfl rfl (v_in (by omega)) dX5_set_18 (fun H locs hPn hDn hSn => ?_)
      clear hP hD hS
      have hP : va_P (dC, dI) vwCl [(nu, .inr (5, [.ref au, .int lu])), (au, .inl (cI, cap, .inl (upd fu (i : Int32).toNatClampNeg v)))] H := hPn
      have hD : va_D A [(nu, .inr (5, [.ref au, .int lu])), (au, .inl (cI, cap, .inl (upd fu (i : Int32).toNatClampNeg v)))] := hDn
      have hS := hSn
      clear hPn hDn hSn
      obtain ⟨f_3, ef_3⟩ : ∃ g : Nat → Int32, g = upd fu (i : Int32).toNatClampNeg v := ⟨_, rfl⟩
      rw [← ef_3] at hP hD
      have hP9 := hP.sub (ws' := [(nu, .inr (5, [.ref au, .int lu])), (au, .inl (cI, cap, .inl f_3))]) [0, 1] rfl
      have hD9 := hD.sub (ws' := [(nu, .inr (5, [.ref au, .int lu])), (au, .inl (cI, cap, .inl f_3))]) [0, 1] (by decide +kernel) rfl
      rw [hQQ]
      exact W.vret hx hb hr (fun t ht hW => ⟨⟨(), rfl, trivial, ⟨f_3, by rw [ht]; exact hP9, hD9, Or.inl ⟨by omega, by omega, ef_3⟩⟩⟩, hS.F ht⟩) hS.2.2 dX5_set_19

theorem LO_e {b l fm lm : Int32} {Bf : Int32 → Int32} {f g : Nat → Int32} {i i' : Nat} (h : LOI b Bf f i l g fm lm) (e : i = i') : LOI b Bf f i' l g fm lm := by rw [← e]; exact h

set_option maxHeartbeats 40000000 in
set_option maxRecDepth 100000 in
theorem f_X1_layOut (l : Launch) (dC : Nat → ClassId) (dI : Nat → Nat → Nat) (cI cS : ClassId) (sz : Nat) (oW : Nat) (nx : Nat) (oC : Nat) (oK : Nat) (nw : Nat) (w1 : Nat) (w2 : Nat) (w3 : Nat) (o7 : Nat) (o8 : Nat) (o9 : Nat) (w4 : Nat) (w5 : Nat) (w6 : Nat) (w7 : Nat) (aw : Nat) (o4 : Nat) (o5 : Nat) (a41 : Nat) (a42 : Nat) (a43 : Nat) (a51 : Nat) (a52 : Nat) (a53 : Nat) (ax : Nat) (ke : Int32) (tl : Int32) (fsh : Int32) (wi : Int32) (ri : Int32) (fm : Int32) (lm : Int32) (lw : Int32) (fw : Nat → Int32) (l4 : Int32) (f42 : Nat → Int32) (f43 : Nat → Int32) (l5 : Int32) (f52 : Nat → Int32) (f53 : Nat → Int32) (lx : Int32) (fx : Nat → Int32) (cd : Int32) (g_ke : 0 ≤ ke.toInt ∧ ke.toInt ≤ 200) (g_fsh : 0 ≤ fsh.toInt ∧ fsh.toInt ≤ 1) (g_fm : -1 ≤ fm.toInt ∧ fm.toInt ≤ 800) (g_lm : -1 ≤ lm.toInt ∧ lm.toInt ≤ 800) (g_lw : 0 ≤ lw.toInt ∧ lw.toInt ≤ 800) (g_lx : 0 ≤ lx.toInt ∧ lx.toInt ≤ 300) (hl100 : lx.toInt ≤ 100) (hlt : prg lx.toInt 0 65535 fx) (hT4 : HT 512 511 hsT f42 f43) (ho4 : (occ f43 512 : Int) ≤ 511) (hT5 : HT 512 511 hsT f52 f53) (ho5 : (occ f53 512 : Int) ≤ 511) : Met l yX1_layOut wsX1_layOut ({ frames := 3, cells := 0, slots := 0, locals := 71 } : Room) (va_Pc [.ref oW, .int cd, .ref nx] (fun U => U.heap.size = sz ∧ va_P (dC, dI) vwCl [(oW, .inr (1, [.ref oC, .ref oK, .ref nw, .ref w1, .ref w2, .ref w3, .ref o7, .ref o8, .ref o9, .ref w4, .ref w5, .ref w6, .ref w7, .int ke, .int tl, .int fsh, .int wi, .int ri, .int fm, .int lm])), (nw, .inr (5, [.ref aw, .int lw])), (aw, .inl (cI, 800, .inl fw)), (oC, .inr (2, [.ref o4, .ref o5])), (o4, .inr (10, [.ref a41, .ref a42, .ref a43, .int l4])), (a42, .inl (cI, 512, .inl f42)), (a43, .inl (cI, 512, .inl f43)), (o5, .inr (10, [.ref a51, .ref a52, .ref a53, .int l5])), (a52, .inl (cI, 512, .inl f52)), (a53, .inl (cI, 512, .inl f53)), (nx, .inr (5, [.ref ax, .int lx])), (ax, .inl (cI, 300, .inl fx))] U.heap ∧ va_K (dC, dI) vwCl [(cI, .int), (cS, .short)] U ∧ va_D (fun _ => True) [(oW, .inr (1, [.ref oC, .ref oK, .ref nw, .ref w1, .ref w2, .ref w3, .ref o7, .ref o8, .ref o9, .ref w4, .ref w5, .ref w6, .ref w7, .int ke, .int tl, .int fsh, .int wi, .int ri, .int fm, .int lm])), (nw, .inr (5, [.ref aw, .int lw])), (aw, .inl (cI, 800, .inl fw)), (oC, .inr (2, [.ref o4, .ref o5])), (o4, .inr (10, [.ref a41, .ref a42, .ref a43, .int l4])), (a42, .inl (cI, 512, .inl f42)), (a43, .inl (cI, 512, .inl f43)), (o5, .inr (10, [.ref a51, .ref a52, .ref a53, .int l5])), (a52, .inl (cI, 512, .inl f52)), (a53, .inl (cI, 512, .inl f53)), (nx, .inr (5, [.ref ax, .int lx])), (ax, .inl (cI, 300, .inl fx))])) (va_Qi (fun (r : Int32) (u : Int32) => r = u) (fun (r : Int32) t => ∃ (lw' : Int32) (fw' : Nat → Int32) (fm' : Int32) (lm' : Int32), va_P (dC, dI) vwCl [(oW, .inr (1, [.ref oC, .ref oK, .ref nw, .ref w1, .ref w2, .ref w3, .ref o7, .ref o8, .ref o9, .ref w4, .ref w5, .ref w6, .ref w7, .int ke, .int tl, .int fsh, .int wi, .int ri, .int fm', .int lm'])), (nw, .inr (5, [.ref aw, .int lw'])), (aw, .inl (cI, 800, .inl fw')), (oC, .inr (2, [.ref o4, .ref o5])), (o4, .inr (10, [.ref a41, .ref a42, .ref a43, .int l4])), (a42, .inl (cI, 512, .inl f42)), (a43, .inl (cI, 512, .inl f43)), (o5, .inr (10, [.ref a51, .ref a52, .ref a53, .int l5])), (a52, .inl (cI, 512, .inl f52)), (a53, .inl (cI, 512, .inl f53)), (nx, .inr (5, [.ref ax, .int lx])), (ax, .inl (cI, 300, .inl fx))] t.heap ∧ va_D (va_A [(oW, .inr (1, [.ref oC, .ref oK, .ref nw, .ref w1, .ref w2, .ref w3, .ref o7, .ref o8, .ref o9, .ref w4, .ref w5, .ref w6, .ref w7, .int ke, .int tl, .int fsh, .int wi, .int ri, .int fm, .int lm])), (nw, .inr (5, [.ref aw, .int lw])), (aw, .inl (cI, 800, .inl fw)), (oC, .inr (2, [.ref o4, .ref o5])), (o4, .inr (10, [.ref a41, .ref a42, .ref a43, .int l4])), (a42, .inl (cI, 512, .inl f42)), (a43, .inl (cI, 512, .inl f43)), (o5, .inr (10, [.ref a51, .ref a52, .ref a53, .int l5])), (a52, .inl (cI, 512, .inl f52)), (a53, .inl (cI, 512, .inl f53)), (nx, .inr (5, [.ref ax, .int lx])), (ax, .inl (cI, 300, .inl fx))] sz) [(oW, .inr (1, [.ref oC, .ref oK, .ref nw, .ref w1, .ref w2, .ref w3, .ref o7, .ref o8, .ref o9, .ref w4, .ref w5, .ref w6, .ref w7, .int ke, .int tl, .int fsh, .int wi, .int ri, .int fm', .int lm'])), (nw, .inr (5, [.ref aw, .int lw'])), (aw, .inl (cI, 800, .inl fw')), (oC, .inr (2, [.ref o4, .ref o5])), (o4, .inr (10, [.ref a41, .ref a42, .ref a43, .int l4])), (a42, .inl (cI, 512, .inl f42)), (a43, .inl (cI, 512, .inl f43)), (o5, .inr (10, [.ref a51, .ref a52, .ref a53, .int l5])), (a52, .inl (cI, 512, .inl f52)), (a53, .inl (cI, 512, .inl f53)), (nx, .inr (5, [.ref ax, .int lx])), (ax, .inl (cI, 300, .inl fx))] ∧ (0 ≤ lw'.toInt ∧ lw'.toInt ≤ 800) ∧ (-1 ≤ fm'.toInt ∧ fm'.toInt ≤ 800) ∧ (-1 ≤ lm'.toInt ∧ lm'.toInt ≤ 800) ∧ (-1 ≤ r.toInt ∧ r.toInt ≤ 299) ∧ (F_lo r lw' fm' lm' fw' cd (Bc cd f42 f43 f52 f53) fx lx.toInt)) (va_A [(oW, .inr (1, [.ref oC, .ref oK, .ref nw, .ref w1, .ref w2, .ref w3, .ref o7, .ref o8, .ref o9, .ref w4, .ref w5, .ref w6, .ref w7, .int ke, .int tl, .int fsh, .int wi, .int ri, .int fm, .int lm])), (nw, .inr (5, [.ref aw, .int lw])), (aw, .inl (cI, 800, .inl fw)), (oC, .inr (2, [.ref o4, .ref o5])), (o4, .inr (10, [.ref a41, .ref a42, .ref a43, .int l4])), (a42, .inl (cI, 512, .inl f42)), (a43, .inl (cI, 512, .inl f43)), (o5, .inr (10, [.ref a51, .ref a52, .ref a53, .int l5])), (a52, .inl (cI, 512, .inl f52)), (a53, .inl (cI, 512, .inl f53)), (nx, .inr (5, [.ref ax, .int lx])), (ax, .inl (cI, 300, .inl fx))] sz)) 0 0 (va_A [(oW, .inr (1, [.ref oC, .ref oK, .ref nw, .ref w1, .ref w2, .ref w3, .ref o7, .ref o8, .ref o9, .ref w4, .ref w5, .ref w6, .ref w7, .int ke, .int tl, .int fsh, .int wi, .int ri, .int fm, .int lm])), (nw, .inr (5, [.ref aw, .int lw])), (aw, .inl (cI, 800, .inl fw)), (oC, .inr (2, [.ref o4, .ref o5])), (o4, .inr (10, [.ref a41, .ref a42, .ref a43, .int l4])), (a42, .inl (cI, 512, .inl f42)), (a43, .inl (cI, 512, .inl f43)), (o5, .inr (10, [.ref a51, .ref a52, .ref a53, .int l5])), (a52, .inl (cI, 512, .inl f52)), (a53, .inl (cI, 512, .inl f53)), (nx, .inr (5, [.ref ax, .int lx])), (ax, .inl (cI, 300, .inl fx))] sz) := by
  refine Met.ofW (cc := cX1_layOut) (maxL := 4) (ret := (some .int)) (by decide) rfl ?_
  intro p e s m args below meth c s₁ B hml hv
  obtain ⟨rfl, hsz, hP, hK, hD0⟩ := hv
  have hx := B.exec
  have hb := B.bytes
  have hr := B.returns
  have hts := atoms_spec (ws := wsX1_layOut) B.pre
  have hown : s.vm.findClass RX1 = some m.cls := findClass_of_methodNamed B.named
  have hlocks := B.notSynchronized
  have in_X1 : ∀ w ∈ wsX10, w ∈ wsX1_layOut := fun _ h => List.mem_cons_of_mem _ (List.mem_append_left _ (List.mem_append_left _ (List.mem_append_left _ (List.mem_append_right _ (h)))))
  subst hsz
  have hD := hD0.self (sz := s.heap.size)
  generalize hAe : va_A [(oW, .inr (1, [.ref oC, .ref oK, .ref nw, .ref w1, .ref w2, .ref w3, .ref o7, .ref o8, .ref o9, .ref w4, .ref w5, .ref w6, .ref w7, .int ke, .int tl, .int fsh, .int wi, .int ri, .int fm, .int lm])), (nw, .inr (5, [.ref aw, .int lw])), (aw, .inl (cI, 800, .inl fw)), (oC, .inr (2, [.ref o4, .ref o5])), (o4, .inr (10, [.ref a41, .ref a42, .ref a43, .int l4])), (a42, .inl (cI, 512, .inl f42)), (a43, .inl (cI, 512, .inl f43)), (o5, .inr (10, [.ref a51, .ref a52, .ref a53, .int l5])), (a52, .inl (cI, 512, .inl f52)), (a53, .inl (cI, 512, .inl f53)), (nx, .inr (5, [.ref ax, .int lx])), (ax, .inl (cI, 300, .inl fx))] s.heap.size = A at hD ⊢
  have hA : ∀ q : Nat, s.heap.size ≤ q → A q := fun q h => by rw [← hAe]; exact Or.inr h
  have hS : va_S A s.heap s.heap [] := va_S.rf
  have hP : va_P (dC, dI) vwCl [(oW, .inr (1, [.ref oC, .ref oK, .ref nw, .ref w1, .ref w2, .ref w3, .ref o7, .ref o8, .ref o9, .ref w4, .ref w5, .ref w6, .ref w7, .int ke, .int tl, .int fsh, .int wi, .int ri, .int fm, .int lm])), (nw, .inr (5, [.ref aw, .int lw])), (aw, .inl (cI, 800, .inl fw)), (oC, .inr (2, [.ref o4, .ref o5])), (o4, .inr (10, [.ref a41, .ref a42, .ref a43, .int l4])), (a42, .inl (cI, 512, .inl f42)), (a43, .inl (cI, 512, .inl f43)), (o5, .inr (10, [.ref a51, .ref a52, .ref a53, .int l5])), (a52, .inl (cI, 512, .inl f52)), (a53, .inl (cI, 512, .inl f53)), (nx, .inr (5, [.ref ax, .int lx])), (ax, .inl (cI, 300, .inl fx))] s.heap := hP
  have hl := lv_entry ([.ref oW, .int cd, .ref nx]) (n := 4) (Nat.le_of_ble_eq_true rfl)
  rw [lg_entry_eq]
  generalize (lg_sl ([.ref oW, .int cd, .ref nx]) ++ List.replicate (4 - (lg_sl ([.ref oW, .int cd, .ref nx])).length) Slot.unset).toArray = ls at hl ⊢
  have hl : lv_has ls 4 [(0, .ref oW), (1, .int cd), (2, .ref nx)] := hl
  obtain ⟨QQ, hQQ⟩ : ∃ QQ : Array Value → State → Outcome → State → Prop, QQ = va_Qi (fun (r : Int32) (u : Int32) => r = u) (fun (r : Int32) t => ∃ (lw' : Int32) (fw' : Nat → Int32) (fm' : Int32) (lm' : Int32), va_P (dC, dI) vwCl [(oW, .inr (1, [.ref oC, .ref oK, .ref nw, .ref w1, .ref w2, .ref w3, .ref o7, .ref o8, .ref o9, .ref w4, .ref w5, .ref w6, .ref w7, .int ke, .int tl, .int fsh, .int wi, .int ri, .int fm', .int lm'])), (nw, .inr (5, [.ref aw, .int lw'])), (aw, .inl (cI, 800, .inl fw')), (oC, .inr (2, [.ref o4, .ref o5])), (o4, .inr (10, [.ref a41, .ref a42, .ref a43, .int l4])), (a42, .inl (cI, 512, .inl f42)), (a43, .inl (cI, 512, .inl f43)), (o5, .inr (10, [.ref a51, .ref a52, .ref a53, .int l5])), (a52, .inl (cI, 512, .inl f52)), (a53, .inl (cI, 512, .inl f53)), (nx, .inr (5, [.ref ax, .int lx])), (ax, .inl (cI, 300, .inl fx))] t.heap ∧ va_D A [(oW, .inr (1, [.ref oC, .ref oK, .ref nw, .ref w1, .ref w2, .ref w3, .ref o7, .ref o8, .ref o9, .ref w4, .ref w5, .ref w6, .ref w7, .int ke, .int tl, .int fsh, .int wi, .int ri, .int fm', .int lm'])), (nw, .inr (5, [.ref aw, .int lw'])), (aw, .inl (cI, 800, .inl fw')), (oC, .inr (2, [.ref o4, .ref o5])), (o4, .inr (10, [.ref a41, .ref a42, .ref a43, .int l4])), (a42, .inl (cI, 512, .inl f42)), (a43, .inl (cI, 512, .inl f43)), (o5, .inr (10, [.ref a51, .ref a52, .ref a53, .int l5])), (a52, .inl (cI, 512, .inl f52)), (a53, .inl (cI, 512, .inl f53)), (nx, .inr (5, [.ref ax, .int lx])), (ax, .inl (cI, 300, .inl fx))] ∧ (0 ≤ lw'.toInt ∧ lw'.toInt ≤ 800) ∧ (-1 ≤ fm'.toInt ∧ fm'.toInt ≤ 800) ∧ (-1 ≤ lm'.toInt ∧ lm'.toInt ≤ 800) ∧ (-1 ≤ r.toInt ∧ r.toInt ≤ 299) ∧ (F_lo r lw' fm' lm' fw' cd (Bc cd f42 f43 f52 f53) fx lx.toInt)) A := ⟨_, rfl⟩
  rw [← hQQ]
  have z0 : (0 : Int32).toInt = 0 := rfl
  have z1 : (1 : Int32).toInt = 1 := rfl
  have zm1 : (-1 : Int32).toInt = -1 := rfl
  refine lv_aload_n hx hb dX1_layOut_0 rfl (lv_at hl 0 rfl) ?_
  refine va_get (D := (dC, dI)) (ci := 1) (v := .ref nw) (C := RX1) (T := TX1) (N := 20) hx hb hts in_X1 hown hK hP 0 rfl rfl 2 (by decide) (hts (.fieldLink RX1 16 "TextMender$Choices" "bytes" "LTextMender$Numbers;") (List.mem_of_getElem? (i := 1) rfl)) (fun _ h9 => h9) rfl dX1_layOut_1 ?_
  refine lv_iconst (v := 0) hx hb dX1_layOut_4 (by decide) ?_
  have hPc := hP.sub (ws' := [(nw, .inr (5, [.ref aw, .int lw]))]) [1] rfl
  have hDc := hD.sub (ws' := [(nw, .inr (5, [.ref aw, .int lw]))]) [1] (by decide +kernel) rfl
  have hFc := va_free (wc := [(nw, .inr (5, [.ref aw, .int lw]))]) hD hS hA [1] rfl
  refine va_callv (va_runV (As := [.int 0]) (rest := []) ⟨hx, hb, hml, hown, hts⟩ (m_X5_cut l dC dI cI cS s.heap.size nw aw lw 0 (by omega)) (cwV 1 hts gX1_layOut_X5_cut rfl rfl rfl (by decide +kernel) ⟨Nat.le_of_ble_eq_true rfl, Nat.le_of_ble_eq_true rfl⟩) ⟨fun a U g mk q => by obtain ⟨q0, q1, qP, qK, qD⟩ := q; exact ⟨q0, q1, qP, va_K.moved (u := U) (U := U.calling g mk a) (Vm.Alike.refl U.vm) qK, qD⟩, va_recv hK hPc (ci := 5) (q0 := 0) rfl rfl, fun U hU hW => ⟨rfl, by rw [hU], by rw [hU]; exact hPc, va_K.moved hW.alike hK, hDc.weaken (fun _ _ _ _ => trivial)⟩⟩ rfl rfl hl.1 rfl (lv_room (Nat.le_of_ble_eq_true rfl)) dX1_layOut_5 ⟨Nat.le_of_ble_eq_true rfl, Nat.le_of_ble_eq_true rfl⟩) hS (fun q _ h => hFc q h) hFc (fun u t H1 locs ht hvm hw hB hz1 hk1 hSn => ?_)
  obtain ⟨lu_1, hP1, hD1, hf1_0, hf1_1, hf1_2⟩ := hB
  rw [ht] at hP1
  obtain ⟨hPn, hDn⟩ := va_join (wr := [(oW, .inr (1, [.ref oC, .ref oK, .ref nw, .ref w1, .ref w2, .ref w3, .ref o7, .ref o8, .ref o9, .ref w4, .ref w5, .ref w6, .ref w7, .int ke, .int tl, .int fsh, .int wi, .int ri, .int fm, .int lm])), (aw, .inl (cI, 800, .inl fw)), (oC, .inr (2, [.ref o4, .ref o5])), (o4, .inr (10, [.ref a41, .ref a42, .ref a43, .int l4])), (a42, .inl (cI, 512, .inl f42)), (a43, .inl (cI, 512, .inl f43)), (o5, .inr (10, [.ref a51, .ref a52, .ref a53, .int l5])), (a52, .inl (cI, 512, .inl f52)), (a53, .inl (cI, 512, .inl f53)), (nx, .inr (5, [.ref ax, .int lx])), (ax, .inl (cI, 300, .inl fx))]) (w1 := [(nw, .inr (5, [.ref aw, .int lu_1]))]) hP hD [1] [0, 2, 3, 4, 5, 6, 7, 8, 9, 10, 11] rfl rfl (by decide +kernel) (by decide +kernel) hk1 hFc hP1 hD1
  clear hP hD hS hPc hDc hFc hk1 hz1 hvm ht hP1 hD1
  generalize H1 = H at hPn hSn ⊢
  have hP : va_P (dC, dI) vwCl [(oW, .inr (1, [.ref oC, .ref oK, .ref nw, .ref w1, .ref w2, .ref w3, .ref o7, .ref o8, .ref o9, .ref w4, .ref w5, .ref w6, .ref w7, .int ke, .int tl, .int fsh, .int wi, .int ri, .int fm, .int lm])), (aw, .inl (cI, 800, .inl fw)), (oC, .inr (2, [.ref o4, .ref o5])), (o4, .inr (10, [.ref a41, .ref a42, .ref a43, .int l4])), (a42, .inl (cI, 512, .inl f42)), (a43, .inl (cI, 512, .inl f43)), (o5, .inr (10, [.ref a51, .ref a52, .ref a53, .int l5])), (a52, .inl (cI, 512, .inl f52)), (a53, .inl (cI, 512, .inl f53)), (nx, .inr (5, [.ref ax, .int lx])), (ax, .inl (cI, 300, .inl fx)), (nw, .inr (5, [.ref aw, .int lu_1]))] H := hPn
  have hD : va_D A [(oW, .inr (1, [.ref oC, .ref oK, .ref nw, .ref w1, .ref w2, .ref w3, .ref o7, .ref o8, .ref o9, .ref w4, .ref w5, .ref w6, .ref w7, .int ke, .int tl, .int fsh, .int wi, .int ri, .int fm, .int lm])), (aw, .inl (cI, 800, .inl fw)), (oC, .inr (2, [.ref o4, .ref o5])), (o4, .inr (10, [.ref a41, .ref a42, .ref a43, .int l4])), (a42, .inl (cI, 512, .inl f42)), (a43, .inl (cI, 512, .inl f43)), (o5, .inr (10, [.ref a51, .ref a52, .ref a53, .int l5])), (a52, .inl (cI, 512, .inl f52)), (a53, .inl (cI, 512, .inl f53)), (nx, .inr (5, [.ref ax, .int lx])), (ax, .inl (cI, 300, .inl fx)), (nw, .inr (5, [.ref aw, .int lu_1]))] := hDn
  have hS := hSn
  clear hPn hDn hSn
  have ha1 : lu_1.toInt = 0 := F_cut_l hf1_2 (by first | decide | omega) (by first | omega | (show (0 : Int) ≤ _; omega))
  refine lv_aload_n hx hb dX1_layOut_8 rfl (lv_at hl 0 rfl) ?_
  refine lv_iconst (v := (-1)) hx hb dX1_layOut_9 (by decide) ?_
  refine va_put (D := (dC, dI)) (ci := 1) (v := .int (-1)) (ty := .int) (C := RX1) (T := TX1) (N := 20) hx hb hts in_X1 tyX1 tyX1_ok nmX1 hown hK hP hD hS 0 rfl rfl 18 (by decide) (hts (.fieldLink RX1 82 "TextMender$Choices" "firstMark" "I") (List.mem_of_getElem? (i := 2) rfl)) (fun _ h9 => h9) rfl (by decide +kernel) rfl rfl (Nat.le_of_ble_eq_true rfl) dX1_layOut_10 (fun H locs hPn hDn hSn => ?_)
  clear hP hD hS
  have hP : va_P (dC, dI) vwCl [(oW, .inr (1, [.ref oC, .ref oK, .ref nw, .ref w1, .ref w2, .ref w3, .ref o7, .ref o8, .ref o9, .ref w4, .ref w5, .ref w6, .ref w7, .int ke, .int tl, .int fsh, .int wi, .int ri, .int (-1), .int lm])), (aw, .inl (cI, 800, .inl fw)), (oC, .inr (2, [.ref o4, .ref o5])), (o4, .inr (10, [.ref a41, .ref a42, .ref a43, .int l4])), (a42, .inl (cI, 512, .inl f42)), (a43, .inl (cI, 512, .inl f43)), (o5, .inr (10, [.ref a51, .ref a52, .ref a53, .int l5])), (a52, .inl (cI, 512, .inl f52)), (a53, .inl (cI, 512, .inl f53)), (nx, .inr (5, [.ref ax, .int lx])), (ax, .inl (cI, 300, .inl fx)), (nw, .inr (5, [.ref aw, .int lu_1]))] H := hPn
  have hD : va_D A [(oW, .inr (1, [.ref oC, .ref oK, .ref nw, .ref w1, .ref w2, .ref w3, .ref o7, .ref o8, .ref o9, .ref w4, .ref w5, .ref w6, .ref w7, .int ke, .int tl, .int fsh, .int wi, .int ri, .int (-1), .int lm])), (aw, .inl (cI, 800, .inl fw)), (oC, .inr (2, [.ref o4, .ref o5])), (o4, .inr (10, [.ref a41, .ref a42, .ref a43, .int l4])), (a42, .inl (cI, 512, .inl f42)), (a43, .inl (cI, 512, .inl f43)), (o5, .inr (10, [.ref a51, .ref a52, .ref a53, .int l5])), (a52, .inl (cI, 512, .inl f52)), (a53, .inl (cI, 512, .inl f53)), (nx, .inr (5, [.ref ax, .int lx])), (ax, .inl (cI, 300, .inl fx)), (nw, .inr (5, [.ref aw, .int lu_1]))] := hDn
  have hS := hSn
  clear hPn hDn hSn
  refine lv_aload_n hx hb dX1_layOut_13 rfl (lv_at hl 0 rfl) ?_
  refine lv_iconst (v := (-1)) hx hb dX1_layOut_14 (by decide) ?_
  refine va_put (D := (dC, dI)) (ci := 1) (v := .int (-1)) (ty := .int) (C := RX1) (T := TX1) (N := 20) hx hb hts in_X1 tyX1 tyX1_ok nmX1 hown hK hP hD hS 0 rfl rfl 19 (by decide) (hts (.fieldLink RX1 85 "TextMender$Choices" "lastMark" "I") (List.mem_of_getElem? (i := 3) rfl)) (fun _ h9 => h9) rfl (by decide +kernel) rfl rfl (Nat.le_of_ble_eq_true rfl) dX1_layOut_15 (fun H locs hPn hDn hSn => ?_)
  clear hP hD hS
  have hP : va_P (dC, dI) vwCl [(oW, .inr (1, [.ref oC, .ref oK, .ref nw, .ref w1, .ref w2, .ref w3, .ref o7, .ref o8, .ref o9, .ref w4, .ref w5, .ref w6, .ref w7, .int ke, .int tl, .int fsh, .int wi, .int ri, .int (-1), .int (-1)])), (aw, .inl (cI, 800, .inl fw)), (oC, .inr (2, [.ref o4, .ref o5])), (o4, .inr (10, [.ref a41, .ref a42, .ref a43, .int l4])), (a42, .inl (cI, 512, .inl f42)), (a43, .inl (cI, 512, .inl f43)), (o5, .inr (10, [.ref a51, .ref a52, .ref a53, .int l5])), (a52, .inl (cI, 512, .inl f52)), (a53, .inl (cI, 512, .inl f53)), (nx, .inr (5, [.ref ax, .int lx])), (ax, .inl (cI, 300, .inl fx)), (nw, .inr (5, [.ref aw, .int lu_1]))] H := hPn
  have hD : va_D A [(oW, .inr (1, [.ref oC, .ref oK, .ref nw, .ref w1, .ref w2, .ref w3, .ref o7, .ref o8, .ref o9, .ref w4, .ref w5, .ref w6, .ref w7, .int ke, .int tl, .int fsh, .int wi, .int ri, .int (-1), .int (-1)])), (aw, .inl (cI, 800, .inl fw)), (oC, .inr (2, [.ref o4, .ref o5])), (o4, .inr (10, [.ref a41, .ref a42, .ref a43, .int l4])), (a42, .inl (cI, 512, .inl f42)), (a43, .inl (cI, 512, .inl f43)), (o5, .inr (10, [.ref a51, .ref a52, .ref a53, .int l5])), (a52, .inl (cI, 512, .inl f52)), (a53, .inl (cI, 512, .inl f53)), (nx, .inr (5, [.ref ax, .int lx])), (ax, .inl (cI, 300, .inl fx)), (nw, .inr (5, [.ref aw, .int lu_1]))] := hDn
  have hS := hSn
  clear hPn hDn hSn
  refine lv_iconst (v := 0) hx hb dX1_layOut_18 (by decide) ?_
  refine lv_istore_n (lv' := [(3, .int 0), (0, .ref oW), (1, .int cd), (2, .ref nx)]) hx hb dX1_layOut_19 rfl hl (by decide) rfl (fun ls hl => ?_)
  have LOOP_20 : ∀ (k_20 : Nat) (i : Int32) (lwa : Int32) (fma : Int32) (lma : Int32) (fwa : Nat → Int32) (H : Heap) (locs : List Loc) (ls : Array Slot), MSd (300 - i.toInt : Int) k_20 → (0 ≤ i.toInt ∧ i.toInt ≤ 100) → (0 ≤ lwa.toInt ∧ lwa.toInt ≤ 800) → (-1 ≤ fma.toInt ∧ fma.toInt ≤ 800) → (-1 ≤ lma.toInt ∧ lma.toInt ≤ 800) → (i.toInt ≤ lx.toInt) → (lwa.toInt ≤ 8 * i.toInt) → (LOI cd (Bc cd f42 f43 f52 f53) fx i.toNatClampNeg lwa fwa fma lma) → va_P (dC, dI) vwCl [(oW, .inr (1, [.ref oC, .ref oK, .ref nw, .ref w1, .ref w2, .ref w3, .ref o7, .ref o8, .ref o9, .ref w4, .ref w5, .ref w6, .ref w7, .int ke, .int tl, .int fsh, .int wi, .int ri, .int fma, .int lma])), (aw, .inl (cI, 800, .inl fwa)), (oC, .inr (2, [.ref o4, .ref o5])), (o4, .inr (10, [.ref a41, .ref a42, .ref a43, .int l4])), (a42, .inl (cI, 512, .inl f42)), (a43, .inl (cI, 512, .inl f43)), (o5, .inr (10, [.ref a51, .ref a52, .ref a53, .int l5])), (a52, .inl (cI, 512, .inl f52)), (a53, .inl (cI, 512, .inl f53)), (nx, .inr (5, [.ref ax, .int lx])), (ax, .inl (cI, 300, .inl fx)), (nw, .inr (5, [.ref aw, .int lwa]))] H → va_D A [(oW, .inr (1, [.ref oC, .ref oK, .ref nw, .ref w1, .ref w2, .ref w3, .ref o7, .ref o8, .ref o9, .ref w4, .ref w5, .ref w6, .ref w7, .int ke, .int tl, .int fsh, .int wi, .int ri, .int fma, .int lma])), (aw, .inl (cI, 800, .inl fwa)), (oC, .inr (2, [.ref o4, .ref o5])), (o4, .inr (10, [.ref a41, .ref a42, .ref a43, .int l4])), (a42, .inl (cI, 512, .inl f42)), (a43, .inl (cI, 512, .inl f43)), (o5, .inr (10, [.ref a51, .ref a52, .ref a53, .int l5])), (a52, .inl (cI, 512, .inl f52)), (a53, .inl (cI, 512, .inl f53)), (nx, .inr (5, [.ref ax, .int lx])), (ax, .inl (cI, 300, .inl fx)), (nw, .inr (5, [.ref aw, .int lwa]))] → va_S A s.heap H locs → lv_has ls 4 [(3, .int i), (0, .ref oW), (1, .int cd), (2, .ref nx)] → W p l e (headSpec wsX1_layOut ({ frames := 3, cells := 0, slots := 0, locals := 71 } : Room)).room s m ([.ref oW, .int cd, .ref nx] : List Value).toArray below meth c H locs 0 0 (MQ below QQ ([.ref oW, .int cd, .ref nx] : List Value).toArray s 0 0 A) (F0 m 20 ls []) := by
    clear hP hD hS hl
    intro k_20
    induction k_20 with
    | zero =>
      intro i lwa fma lma fwa H locs ls hm_20 g_i g_lwa g_fma g_lma hil hl8 hlo hP hD hS hl
      exact ms_0 hm_20
    | succ k_20 ih_20 =>
      intro i lwa fma lma fwa H locs ls hm_20 g_i g_lwa g_fma g_lma hil hl8 hlo hP hD hS hl
      refine lv_iload_n hx hb dX1_layOut_20 rfl (lv_at hl 0 rfl) ?_
      refine lv_aload_n hx hb dX1_layOut_21 rfl (lv_at hl 3 rfl) ?_
      have hPc := hP.sub (ws' := [(nx, .inr (5, [.ref ax, .int lx]))]) [9] rfl
      have hDc := hD.sub (ws' := [(nx, .inr (5, [.ref ax, .int lx]))]) [9] (by decide +kernel) rfl
      have hFc := va_free (wc := [(nx, .inr (5, [.ref ax, .int lx]))]) hD hS hA [9] rfl
      refine va_calli (va_runV (As := []) (rest := [.int i]) ⟨hx, hb, hml, hown, hts⟩ (m_X5_length l dC dI cI cS H.size nx ax lx ) (cwV 0 hts gX1_layOut_X5_length rfl rfl rfl (by decide +kernel) ⟨Nat.le_of_ble_eq_true rfl, Nat.le_of_ble_eq_true rfl⟩) ⟨fun a U g mk q => by obtain ⟨q0, q1, qP, qK, qD⟩ := q; exact ⟨q0, q1, qP, va_K.moved (u := U) (U := U.calling g mk a) (Vm.Alike.refl U.vm) qK, qD⟩, va_recv hK hPc (ci := 5) (q0 := 0) rfl rfl, fun U hU hW => ⟨rfl, by rw [hU], by rw [hU]; exact hPc, va_K.moved hW.alike hK, hDc.weaken (fun _ _ _ _ => trivial)⟩⟩ rfl rfl hl.1 rfl (lv_room (Nat.le_of_ble_eq_true rfl)) dX1_layOut_22 ⟨Nat.le_of_ble_eq_true rfl, Nat.le_of_ble_eq_true rfl⟩) hS (fun q _ h => hFc q h) hFc (fun r_2 u t H1 locs ht hvm hw hB hz1 hk1 hSn => ?_)
      subst hw
      obtain ⟨hP1, hD1, hf2_0⟩ := hB
      rw [ht] at hP1
      obtain ⟨hPn, hDn⟩ := va_join (wr := [(oW, .inr (1, [.ref oC, .ref oK, .ref nw, .ref w1, .ref w2, .ref w3, .ref o7, .ref o8, .ref o9, .ref w4, .ref w5, .ref w6, .ref w7, .int ke, .int tl, .int fsh, .int wi, .int ri, .int fma, .int lma])), (aw, .inl (cI, 800, .inl fwa)), (oC, .inr (2, [.ref o4, .ref o5])), (o4, .inr (10, [.ref a41, .ref a42, .ref a43, .int l4])), (a42, .inl (cI, 512, .inl f42)), (a43, .inl (cI, 512, .inl f43)), (o5, .inr (10, [.ref a51, .ref a52, .ref a53, .int l5])), (a52, .inl (cI, 512, .inl f52)), (a53, .inl (cI, 512, .inl f53)), (ax, .inl (cI, 300, .inl fx)), (nw, .inr (5, [.ref aw, .int lwa]))]) (w1 := [(nx, .inr (5, [.ref ax, .int lx]))]) hP hD [9] [0, 1, 2, 3, 4, 5, 6, 7, 8, 10, 11] rfl rfl (by decide +kernel) (by decide +kernel) hk1 hFc hP1 hD1
      clear hP hD hS hPc hDc hFc hk1 hz1 hvm ht hP1 hD1
      generalize H1 = H at hPn hSn ⊢
      have hP : va_P (dC, dI) vwCl [(oW, .inr (1, [.ref oC, .ref oK, .ref nw, .ref w1, .ref w2, .ref w3, .ref o7, .ref o8, .ref o9, .ref w4, .ref w5, .ref w6, .ref w7, .int ke, .int tl, .int fsh, .int wi, .int ri, .int fma, .int lma])), (aw, .inl (cI, 800, .inl fwa)), (oC, .inr (2, [.ref o4, .ref o5])), (o4, .inr (10, [.ref a41, .ref a42, .ref a43, .int l4])), (a42, .inl (cI, 512, .inl f42)), (a43, .inl (cI, 512, .inl f43)), (o5, .inr (10, [.ref a51, .ref a52, .ref a53, .int l5])), (a52, .inl (cI, 512, .inl f52)), (a53, .inl (cI, 512, .inl f53)), (ax, .inl (cI, 300, .inl fx)), (nw, .inr (5, [.ref aw, .int lwa])), (nx, .inr (5, [.ref ax, .int lx]))] H := hPn
      have hD : va_D A [(oW, .inr (1, [.ref oC, .ref oK, .ref nw, .ref w1, .ref w2, .ref w3, .ref o7, .ref o8, .ref o9, .ref w4, .ref w5, .ref w6, .ref w7, .int ke, .int tl, .int fsh, .int wi, .int ri, .int fma, .int lma])), (aw, .inl (cI, 800, .inl fwa)), (oC, .inr (2, [.ref o4, .ref o5])), (o4, .inr (10, [.ref a41, .ref a42, .ref a43, .int l4])), (a42, .inl (cI, 512, .inl f42)), (a43, .inl (cI, 512, .inl f43)), (o5, .inr (10, [.ref a51, .ref a52, .ref a53, .int l5])), (a52, .inl (cI, 512, .inl f52)), (a53, .inl (cI, 512, .inl f53)), (ax, .inl (cI, 300, .inl fx)), (nw, .inr (5, [.ref aw, .int lwa])), (nx, .inr (5, [.ref ax, .int lx]))] := hDn
      have hS := hSn
      clear hPn hDn hSn
      rw [hf2_0]
      refine lv_icmp_ge (tgt := 97) hx hb dX1_layOut_25 (by decide) (fun c_3 => ?_) (fun c_3 => ?_)
      · have tc_3 : lx.toInt ≤ i.toInt := v_le c_3
        refine lv_iconst (v := (-1)) hx hb dX1_layOut_97 (by decide) ?_
        have hP9 := hP.sub (ws' := [(oW, .inr (1, [.ref oC, .ref oK, .ref nw, .ref w1, .ref w2, .ref w3, .ref o7, .ref o8, .ref o9, .ref w4, .ref w5, .ref w6, .ref w7, .int ke, .int tl, .int fsh, .int wi, .int ri, .int fma, .int lma])), (nw, .inr (5, [.ref aw, .int lwa])), (aw, .inl (cI, 800, .inl fwa)), (oC, .inr (2, [.ref o4, .ref o5])), (o4, .inr (10, [.ref a41, .ref a42, .ref a43, .int l4])), (a42, .inl (cI, 512, .inl f42)), (a43, .inl (cI, 512, .inl f43)), (o5, .inr (10, [.ref a51, .ref a52, .ref a53, .int l5])), (a52, .inl (cI, 512, .inl f52)), (a53, .inl (cI, 512, .inl f53)), (nx, .inr (5, [.ref ax, .int lx])), (ax, .inl (cI, 300, .inl fx))]) [0, 10, 1, 2, 3, 4, 5, 6, 7, 8, 11, 9] rfl
        have hD9 := hD.sub (ws' := [(oW, .inr (1, [.ref oC, .ref oK, .ref nw, .ref w1, .ref w2, .ref w3, .ref o7, .ref o8, .ref o9, .ref w4, .ref w5, .ref w6, .ref w7, .int ke, .int tl, .int fsh, .int wi, .int ri, .int fma, .int lma])), (nw, .inr (5, [.ref aw, .int lwa])), (aw, .inl (cI, 800, .inl fwa)), (oC, .inr (2, [.ref o4, .ref o5])), (o4, .inr (10, [.ref a41, .ref a42, .ref a43, .int l4])), (a42, .inl (cI, 512, .inl f42)), (a43, .inl (cI, 512, .inl f43)), (o5, .inr (10, [.ref a51, .ref a52, .ref a53, .int l5])), (a52, .inl (cI, 512, .inl f52)), (a53, .inl (cI, 512, .inl f53)), (nx, .inr (5, [.ref ax, .int lx])), (ax, .inl (cI, 300, .inl fx))]) [0, 10, 1, 2, 3, 4, 5, 6, 7, 8, 11, 9] (by decide +kernel) rfl
        rw [hQQ]
        exact W.iret (v := (-1)) hx hb hr (fun t ht hW => ⟨⟨(-1), (-1), rfl, rfl, ⟨lwa, fwa, fma, lma, by rw [ht]; exact hP9, hD9, g_lwa, g_fma, g_lma, by decide, Or.inl ⟨rfl, LO_e hlo (by have ci8 := v_clamp (x := i) (by omega); omega)⟩⟩⟩, hS.F ht⟩) hS.2.2 dX1_layOut_98
      · have tc_3 : i.toInt < lx.toInt := v_nle c_3
        have ci9 := v_clamp (x := i) (by omega)
        refine lv_aload_n hx hb dX1_layOut_28 rfl (lv_at hl 3 rfl) ?_
        refine lv_iload_n hx hb dX1_layOut_29 rfl (lv_at hl 0 rfl) ?_
        have hPc := hP.sub (ws' := [(nx, .inr (5, [.ref ax, .int lx])), (ax, .inl (cI, 300, .inl fx))]) [11, 9] rfl
        have hDc := hD.sub (ws' := [(nx, .inr (5, [.ref ax, .int lx])), (ax, .inl (cI, 300, .inl fx))]) [11, 9] (by decide +kernel) rfl
        have hFc := va_free (wc := [(nx, .inr (5, [.ref ax, .int lx])), (ax, .inl (cI, 300, .inl fx))]) hD hS hA [11, 9] rfl
        refine va_calli (va_runV (As := [.int i]) (rest := []) ⟨hx, hb, hml, hown, hts⟩ (m_X5_get l dC dI cI cS H.size nx ax 300 lx fx i (by omega) (by omega)) (cwV 1 hts gX1_layOut_X5_get rfl rfl rfl (by decide +kernel) ⟨Nat.le_of_ble_eq_true rfl, Nat.le_of_ble_eq_true rfl⟩) ⟨fun a U g mk q => by obtain ⟨q0, q1, qP, qK, qD⟩ := q; exact ⟨q0, q1, qP, va_K.moved (u := U) (U := U.calling g mk a) (Vm.Alike.refl U.vm) qK, qD⟩, va_recv hK hPc (ci := 5) (q0 := 0) rfl rfl, fun U hU hW => ⟨rfl, by rw [hU], by rw [hU]; exact hPc, va_K.moved hW.alike hK, hDc.weaken (fun _ _ _ _ => trivial)⟩⟩ rfl rfl hl.1 rfl (lv_room (Nat.le_of_ble_eq_true rfl)) dX1_layOut_30 ⟨Nat.le_of_ble_eq_true rfl, Nat.le_of_ble_eq_true rfl⟩) hS (fun q _ h => hFc q h) hFc (fun r_4 u t H1 locs ht hvm hw hB hz1 hk1 hSn => ?_)
        subst hw
        obtain ⟨hP1, hD1, hf4_0⟩ := hB
        rw [ht] at hP1
        obtain ⟨hPn, hDn⟩ := va_join (wr := [(oW, .inr (1, [.ref oC, .ref oK, .ref nw, .ref w1, .ref w2, .ref w3, .ref o7, .ref o8, .ref o9, .ref w4, .ref w5, .ref w6, .ref w7, .int ke, .int tl, .int fsh, .int wi, .int ri, .int fma, .int lma])), (aw, .inl (cI, 800, .inl fwa)), (oC, .inr (2, [.ref o4, .ref o5])), (o4, .inr (10, [.ref a41, .ref a42, .ref a43, .int l4])), (a42, .inl (cI, 512, .inl f42)), (a43, .inl (cI, 512, .inl f43)), (o5, .inr (10, [.ref a51, .ref a52, .ref a53, .int l5])), (a52, .inl (cI, 512, .inl f52)), (a53, .inl (cI, 512, .inl f53)), (nw, .inr (5, [.ref aw, .int lwa]))]) (w1 := [(nx, .inr (5, [.ref ax, .int lx])), (ax, .inl (cI, 300, .inl fx))]) hP hD [11, 9] [0, 1, 2, 3, 4, 5, 6, 7, 8, 10] rfl rfl (by decide +kernel) (by decide +kernel) hk1 hFc hP1 hD1
        clear hP hD hS hPc hDc hFc hk1 hz1 hvm ht hP1 hD1
        generalize H1 = H at hPn hSn ⊢
        have hP : va_P (dC, dI) vwCl [(oW, .inr (1, [.ref oC, .ref oK, .ref nw, .ref w1, .ref w2, .ref w3, .ref o7, .ref o8, .ref o9, .ref w4, .ref w5, .ref w6, .ref w7, .int ke, .int tl, .int fsh, .int wi, .int ri, .int fma, .int lma])), (aw, .inl (cI, 800, .inl fwa)), (oC, .inr (2, [.ref o4, .ref o5])), (o4, .inr (10, [.ref a41, .ref a42, .ref a43, .int l4])), (a42, .inl (cI, 512, .inl f42)), (a43, .inl (cI, 512, .inl f43)), (o5, .inr (10, [.ref a51, .ref a52, .ref a53, .int l5])), (a52, .inl (cI, 512, .inl f52)), (a53, .inl (cI, 512, .inl f53)), (nw, .inr (5, [.ref aw, .int lwa])), (nx, .inr (5, [.ref ax, .int lx])), (ax, .inl (cI, 300, .inl fx))] H := hPn
        have hD : va_D A [(oW, .inr (1, [.ref oC, .ref oK, .ref nw, .ref w1, .ref w2, .ref w3, .ref o7, .ref o8, .ref o9, .ref w4, .ref w5, .ref w6, .ref w7, .int ke, .int tl, .int fsh, .int wi, .int ri, .int fma, .int lma])), (aw, .inl (cI, 800, .inl fwa)), (oC, .inr (2, [.ref o4, .ref o5])), (o4, .inr (10, [.ref a41, .ref a42, .ref a43, .int l4])), (a42, .inl (cI, 512, .inl f42)), (a43, .inl (cI, 512, .inl f43)), (o5, .inr (10, [.ref a51, .ref a52, .ref a53, .int l5])), (a52, .inl (cI, 512, .inl f52)), (a53, .inl (cI, 512, .inl f53)), (nw, .inr (5, [.ref aw, .int lwa])), (nx, .inr (5, [.ref ax, .int lx])), (ax, .inl (cI, 300, .inl fx))] := hDn
        have hS := hSn
        clear hPn hDn hSn
        have hg4 : r_4 = fx i.toNatClampNeg := F_get_f hf4_0 (by omega) (by omega)
        have hgr4 : 0 ≤ r_4.toInt ∧ r_4.toInt ≤ 65535 := prg_at hlt hg4 (by omega) (by omega)
        refine lv_ldc hx hb hown (hts (.constant RX1 99 (65533)) (List.mem_of_getElem? (i := 4) rfl)) dX1_layOut_33 ?_
        refine lv_icmp_ne (tgt := 69) hx hb dX1_layOut_35 (by decide) (fun c_5 => ?_) (fun c_5 => ?_)
        · have tc_5 : ¬ r_4.toInt = 65533 := v_ne c_5
          refine lv_aload_n hx hb dX1_layOut_69 rfl (lv_at hl 1 rfl) ?_
          refine va_get (D := (dC, dI)) (ci := 1) (v := .ref oC) (C := RX1) (T := TX1) (N := 20) hx hb hts in_X1 hown hK hP 0 rfl rfl 0 (by decide) (hts (.fieldLink RX1 42 "TextMender$Choices" "codes" "LTextMender$Codes;") (List.mem_of_getElem? (i := 5) rfl)) (fun _ h9 => h9) rfl dX1_layOut_70 ?_
          refine lv_iload_n hx hb dX1_layOut_73 rfl (lv_at hl 2 rfl) ?_
          refine lv_aload_n hx hb dX1_layOut_74 rfl (lv_at hl 3 rfl) ?_
          refine lv_iload_n hx hb dX1_layOut_75 rfl (lv_at hl 0 rfl) ?_
          have hPc := hP.sub (ws' := [(nx, .inr (5, [.ref ax, .int lx])), (ax, .inl (cI, 300, .inl fx))]) [10, 11] rfl
          have hDc := hD.sub (ws' := [(nx, .inr (5, [.ref ax, .int lx])), (ax, .inl (cI, 300, .inl fx))]) [10, 11] (by decide +kernel) rfl
          have hFc := va_free (wc := [(nx, .inr (5, [.ref ax, .int lx])), (ax, .inl (cI, 300, .inl fx))]) hD hS hA [10, 11] rfl
          refine va_calli (va_runV (As := [.int i]) (rest := [.int cd, .ref oC]) ⟨hx, hb, hml, hown, hts⟩ (m_X5_get l dC dI cI cS H.size nx ax 300 lx fx i (by omega) (by omega)) (cwV 1 hts gX1_layOut_X5_get rfl rfl rfl (by decide +kernel) ⟨Nat.le_of_ble_eq_true rfl, Nat.le_of_ble_eq_true rfl⟩) ⟨fun a U g mk q => by obtain ⟨q0, q1, qP, qK, qD⟩ := q; exact ⟨q0, q1, qP, va_K.moved (u := U) (U := U.calling g mk a) (Vm.Alike.refl U.vm) qK, qD⟩, va_recv hK hPc (ci := 5) (q0 := 0) rfl rfl, fun U hU hW => ⟨rfl, by rw [hU], by rw [hU]; exact hPc, va_K.moved hW.alike hK, hDc.weaken (fun _ _ _ _ => trivial)⟩⟩ rfl rfl hl.1 rfl (lv_room (Nat.le_of_ble_eq_true rfl)) dX1_layOut_76 ⟨Nat.le_of_ble_eq_true rfl, Nat.le_of_ble_eq_true rfl⟩) hS (fun q _ h => hFc q h) hFc (fun r_6 u t H1 locs ht hvm hw hB hz1 hk1 hSn => ?_)
          subst hw
          obtain ⟨hP1, hD1, hf6_0⟩ := hB
          rw [ht] at hP1
          obtain ⟨hPn, hDn⟩ := va_join (wr := [(oW, .inr (1, [.ref oC, .ref oK, .ref nw, .ref w1, .ref w2, .ref w3, .ref o7, .ref o8, .ref o9, .ref w4, .ref w5, .ref w6, .ref w7, .int ke, .int tl, .int fsh, .int wi, .int ri, .int fma, .int lma])), (aw, .inl (cI, 800, .inl fwa)), (oC, .inr (2, [.ref o4, .ref o5])), (o4, .inr (10, [.ref a41, .ref a42, .ref a43, .int l4])), (a42, .inl (cI, 512, .inl f42)), (a43, .inl (cI, 512, .inl f43)), (o5, .inr (10, [.ref a51, .ref a52, .ref a53, .int l5])), (a52, .inl (cI, 512, .inl f52)), (a53, .inl (cI, 512, .inl f53)), (nw, .inr (5, [.ref aw, .int lwa]))]) (w1 := [(nx, .inr (5, [.ref ax, .int lx])), (ax, .inl (cI, 300, .inl fx))]) hP hD [10, 11] [0, 1, 2, 3, 4, 5, 6, 7, 8, 9] rfl rfl (by decide +kernel) (by decide +kernel) hk1 hFc hP1 hD1
          clear hP hD hS hPc hDc hFc hk1 hz1 hvm ht hP1 hD1
          generalize H1 = H at hPn hSn ⊢
          have hP : va_P (dC, dI) vwCl [(oW, .inr (1, [.ref oC, .ref oK, .ref nw, .ref w1, .ref w2, .ref w3, .ref o7, .ref o8, .ref o9, .ref w4, .ref w5, .ref w6, .ref w7, .int ke, .int tl, .int fsh, .int wi, .int ri, .int fma, .int lma])), (aw, .inl (cI, 800, .inl fwa)), (oC, .inr (2, [.ref o4, .ref o5])), (o4, .inr (10, [.ref a41, .ref a42, .ref a43, .int l4])), (a42, .inl (cI, 512, .inl f42)), (a43, .inl (cI, 512, .inl f43)), (o5, .inr (10, [.ref a51, .ref a52, .ref a53, .int l5])), (a52, .inl (cI, 512, .inl f52)), (a53, .inl (cI, 512, .inl f53)), (nw, .inr (5, [.ref aw, .int lwa])), (nx, .inr (5, [.ref ax, .int lx])), (ax, .inl (cI, 300, .inl fx))] H := hPn
          have hD : va_D A [(oW, .inr (1, [.ref oC, .ref oK, .ref nw, .ref w1, .ref w2, .ref w3, .ref o7, .ref o8, .ref o9, .ref w4, .ref w5, .ref w6, .ref w7, .int ke, .int tl, .int fsh, .int wi, .int ri, .int fma, .int lma])), (aw, .inl (cI, 800, .inl fwa)), (oC, .inr (2, [.ref o4, .ref o5])), (o4, .inr (10, [.ref a41, .ref a42, .ref a43, .int l4])), (a42, .inl (cI, 512, .inl f42)), (a43, .inl (cI, 512, .inl f43)), (o5, .inr (10, [.ref a51, .ref a52, .ref a53, .int l5])), (a52, .inl (cI, 512, .inl f52)), (a53, .inl (cI, 512, .inl f53)), (nw, .inr (5, [.ref aw, .int lwa])), (nx, .inr (5, [.ref ax, .int lx])), (ax, .inl (cI, 300, .inl fx))] := hDn
          have hS := hSn
          clear hPn hDn hSn
          have hg6 : r_6 = fx i.toNatClampNeg := F_get_f hf6_0 (by omega) (by omega)
          have hgr6 : 0 ≤ r_6.toInt ∧ r_6.toInt ≤ 65535 := prg_at hlt hg6 (by omega) (by omega)
          refine lv_aload_n hx hb dX1_layOut_79 rfl (lv_at hl 1 rfl) ?_
          refine va_get (D := (dC, dI)) (ci := 1) (v := .ref nw) (C := RX1) (T := TX1) (N := 20) hx hb hts in_X1 hown hK hP 0 rfl rfl 2 (by decide) (hts (.fieldLink RX1 16 "TextMender$Choices" "bytes" "LTextMender$Numbers;") (List.mem_of_getElem? (i := 1) rfl)) (fun _ h9 => h9) rfl dX1_layOut_80 ?_
          have hPc := hP.sub (ws' := [(oC, .inr (2, [.ref o4, .ref o5])), (o4, .inr (10, [.ref a41, .ref a42, .ref a43, .int l4])), (a42, .inl (cI, 512, .inl f42)), (a43, .inl (cI, 512, .inl f43)), (o5, .inr (10, [.ref a51, .ref a52, .ref a53, .int l5])), (a52, .inl (cI, 512, .inl f52)), (a53, .inl (cI, 512, .inl f53)), (nw, .inr (5, [.ref aw, .int lwa])), (aw, .inl (cI, 800, .inl fwa))]) [2, 3, 4, 5, 6, 7, 8, 9, 1] rfl
          have hDc := hD.sub (ws' := [(oC, .inr (2, [.ref o4, .ref o5])), (o4, .inr (10, [.ref a41, .ref a42, .ref a43, .int l4])), (a42, .inl (cI, 512, .inl f42)), (a43, .inl (cI, 512, .inl f43)), (o5, .inr (10, [.ref a51, .ref a52, .ref a53, .int l5])), (a52, .inl (cI, 512, .inl f52)), (a53, .inl (cI, 512, .inl f53)), (nw, .inr (5, [.ref aw, .int lwa])), (aw, .inl (cI, 800, .inl fwa))]) [2, 3, 4, 5, 6, 7, 8, 9, 1] (by decide +kernel) rfl
          have hFc := va_free (wc := [(oC, .inr (2, [.ref o4, .ref o5])), (o4, .inr (10, [.ref a41, .ref a42, .ref a43, .int l4])), (a42, .inl (cI, 512, .inl f42)), (a43, .inl (cI, 512, .inl f43)), (o5, .inr (10, [.ref a51, .ref a52, .ref a53, .int l5])), (a52, .inl (cI, 512, .inl f52)), (a53, .inl (cI, 512, .inl f53)), (nw, .inr (5, [.ref aw, .int lwa])), (aw, .inl (cI, 800, .inl fwa))]) hD hS hA [2, 3, 4, 5, 6, 7, 8, 9, 1] rfl
          refine va_calli (va_runV (As := [.int cd, .int r_6, .ref nw]) (rest := []) ⟨hx, hb, hml, hown, hts⟩ (f_X2_encode l dC dI cI cS H.size oC nw o4 o5 a41 a42 a43 a51 a52 a53 aw 800 l4 f42 f43 l5 f52 f53 lwa fwa cd r_6 (by omega) (by omega) (by omega) (by omega) (hT4) (ho4) (hT5) (ho5)) (cwV 3 hts gX1_layOut_X2_encode rfl rfl rfl (by decide +kernel) ⟨Nat.le_of_ble_eq_true rfl, Nat.le_of_ble_eq_true rfl⟩) ⟨fun a U g mk q => by obtain ⟨q0, q1, qP, qK, qD⟩ := q; exact ⟨q0, q1, qP, va_K.moved (u := U) (U := U.calling g mk a) (Vm.Alike.refl U.vm) qK, qD⟩, va_recv hK hPc (ci := 2) (q0 := 0) rfl rfl, fun U hU hW => ⟨rfl, by rw [hU], by rw [hU]; exact hPc, va_K.moved hW.alike hK, hDc.weaken (fun _ _ _ _ => trivial)⟩⟩ rfl rfl hl.1 rfl (lv_room (Nat.le_of_ble_eq_true rfl)) dX1_layOut_83 ⟨Nat.le_of_ble_eq_true rfl, Nat.le_of_ble_eq_true rfl⟩) hS (fun q _ h => hFc q h) hFc (fun r_7 u t H1 locs ht hvm hw hB hz1 hk1 hSn => ?_)
          subst hw
          obtain ⟨lu_7, fu_7, hP1, hD1, hf7_0, hf7_1, hf7_2⟩ := hB
          rw [ht] at hP1
          obtain ⟨hPn, hDn⟩ := va_join (wr := [(oW, .inr (1, [.ref oC, .ref oK, .ref nw, .ref w1, .ref w2, .ref w3, .ref o7, .ref o8, .ref o9, .ref w4, .ref w5, .ref w6, .ref w7, .int ke, .int tl, .int fsh, .int wi, .int ri, .int fma, .int lma])), (nx, .inr (5, [.ref ax, .int lx])), (ax, .inl (cI, 300, .inl fx))]) (w1 := [(oC, .inr (2, [.ref o4, .ref o5])), (o4, .inr (10, [.ref a41, .ref a42, .ref a43, .int l4])), (a42, .inl (cI, 512, .inl f42)), (a43, .inl (cI, 512, .inl f43)), (o5, .inr (10, [.ref a51, .ref a52, .ref a53, .int l5])), (a52, .inl (cI, 512, .inl f52)), (a53, .inl (cI, 512, .inl f53)), (nw, .inr (5, [.ref aw, .int lu_7])), (aw, .inl (cI, 800, .inl fu_7))]) hP hD [2, 3, 4, 5, 6, 7, 8, 9, 1] [0, 10, 11] rfl rfl (by decide +kernel) (by decide +kernel) hk1 hFc hP1 hD1
          clear hP hD hS hPc hDc hFc hk1 hz1 hvm ht hP1 hD1
          generalize H1 = H at hPn hSn ⊢
          have hP : va_P (dC, dI) vwCl [(oW, .inr (1, [.ref oC, .ref oK, .ref nw, .ref w1, .ref w2, .ref w3, .ref o7, .ref o8, .ref o9, .ref w4, .ref w5, .ref w6, .ref w7, .int ke, .int tl, .int fsh, .int wi, .int ri, .int fma, .int lma])), (nx, .inr (5, [.ref ax, .int lx])), (ax, .inl (cI, 300, .inl fx)), (oC, .inr (2, [.ref o4, .ref o5])), (o4, .inr (10, [.ref a41, .ref a42, .ref a43, .int l4])), (a42, .inl (cI, 512, .inl f42)), (a43, .inl (cI, 512, .inl f43)), (o5, .inr (10, [.ref a51, .ref a52, .ref a53, .int l5])), (a52, .inl (cI, 512, .inl f52)), (a53, .inl (cI, 512, .inl f53)), (nw, .inr (5, [.ref aw, .int lu_7])), (aw, .inl (cI, 800, .inl fu_7))] H := hPn
          have hD : va_D A [(oW, .inr (1, [.ref oC, .ref oK, .ref nw, .ref w1, .ref w2, .ref w3, .ref o7, .ref o8, .ref o9, .ref w4, .ref w5, .ref w6, .ref w7, .int ke, .int tl, .int fsh, .int wi, .int ri, .int fma, .int lma])), (nx, .inr (5, [.ref ax, .int lx])), (ax, .inl (cI, 300, .inl fx)), (oC, .inr (2, [.ref o4, .ref o5])), (o4, .inr (10, [.ref a41, .ref a42, .ref a43, .int l4])), (a42, .inl (cI, 512, .inl f42)), (a43, .inl (cI, 512, .inl f43)), (o5, .inr (10, [.ref a51, .ref a52, .ref a53, .int l5])), (a52, .inl (cI, 512, .inl f52)), (a53, .inl (cI, 512, .inl f53)), (nw, .inr (5, [.ref aw, .int lu_7])), (aw, .inl (cI, 800, .inl fu_7))] := hDn
          have hS := hSn
          clear hPn hDn hSn
          have hln7 := en_len hf7_2
          refine lv_if_ne (tgt := 91) hx hb dX1_layOut_86 (by decide) (fun c_8 => ?_) (fun c_8 => ?_)
          · have tc_8 : ¬ r_7.toInt = 0 := v_ne c_8
            obtain ⟨x_9, ex_9⟩ : ∃ y : Int32, y = i + 1 := ⟨_, rfl⟩
            have tx_9 : x_9.toInt = i.toInt + 1 := v_add ex_9 (by show -2147483648 ≤ i.toInt + 1; omega) (by show i.toInt + 1 < 2147483648; omega)
            refine lv_iinc (v := x_9) (lv' := [(3, .int x_9), (0, .ref oW), (1, .int cd), (2, .ref nx)]) hx hb dX1_layOut_91 hl (k := 0) rfl (by rw [ex_9]; rfl) (by decide) rfl (fun ls hl => ?_)
            refine lv_goto (tgt := 20) hx hb dX1_layOut_94 (by decide) ?_
            exact ih_20 x_9 lu_7 fma lma fu_7 _ _ _ (ms_lt hm_20 (by show ((300 - x_9.toInt : Int)) < 300 - i.toInt; omega) (by show (0 : Int) < 300 - i.toInt; omega)) (by show 0 ≤ x_9.toInt ∧ x_9.toInt ≤ 100; omega) (by show 0 ≤ lu_7.toInt ∧ lu_7.toInt ≤ 800; omega) (g_fma) (g_lma) (by show x_9.toInt ≤ lx.toInt; omega) (by show lu_7.toInt ≤ 8 * x_9.toInt; omega) (LO_n hlo (fun e9 => c_5 (hg4.trans e9)) hg6 (by rw [← hg6]) hf7_2 (by omega) (by rw [ix_eq (x := x_9) (N := i.toNatClampNeg + 1) (by omega)])) (hP.sub [0, 11, 3, 4, 5, 6, 7, 8, 9, 1, 2, 10] rfl) (hD.sub [0, 11, 3, 4, 5, 6, 7, 8, 9, 1, 2, 10] (by decide +kernel) rfl) hS (lv_sub hl [0, 1, 2, 3] rfl)
          · have tc_8 : r_7.toInt = 0 := v_eq c_8
            refine lv_iload_n hx hb dX1_layOut_89 rfl (lv_at hl 0 rfl) ?_
            have hP9 := hP.sub (ws' := [(oW, .inr (1, [.ref oC, .ref oK, .ref nw, .ref w1, .ref w2, .ref w3, .ref o7, .ref o8, .ref o9, .ref w4, .ref w5, .ref w6, .ref w7, .int ke, .int tl, .int fsh, .int wi, .int ri, .int fma, .int lma])), (nw, .inr (5, [.ref aw, .int lu_7])), (aw, .inl (cI, 800, .inl fu_7)), (oC, .inr (2, [.ref o4, .ref o5])), (o4, .inr (10, [.ref a41, .ref a42, .ref a43, .int l4])), (a42, .inl (cI, 512, .inl f42)), (a43, .inl (cI, 512, .inl f43)), (o5, .inr (10, [.ref a51, .ref a52, .ref a53, .int l5])), (a52, .inl (cI, 512, .inl f52)), (a53, .inl (cI, 512, .inl f53)), (nx, .inr (5, [.ref ax, .int lx])), (ax, .inl (cI, 300, .inl fx))]) [0, 10, 11, 3, 4, 5, 6, 7, 8, 9, 1, 2] rfl
            have hD9 := hD.sub (ws' := [(oW, .inr (1, [.ref oC, .ref oK, .ref nw, .ref w1, .ref w2, .ref w3, .ref o7, .ref o8, .ref o9, .ref w4, .ref w5, .ref w6, .ref w7, .int ke, .int tl, .int fsh, .int wi, .int ri, .int fma, .int lma])), (nw, .inr (5, [.ref aw, .int lu_7])), (aw, .inl (cI, 800, .inl fu_7)), (oC, .inr (2, [.ref o4, .ref o5])), (o4, .inr (10, [.ref a41, .ref a42, .ref a43, .int l4])), (a42, .inl (cI, 512, .inl f42)), (a43, .inl (cI, 512, .inl f43)), (o5, .inr (10, [.ref a51, .ref a52, .ref a53, .int l5])), (a52, .inl (cI, 512, .inl f52)), (a53, .inl (cI, 512, .inl f53)), (nx, .inr (5, [.ref ax, .int lx])), (ax, .inl (cI, 300, .inl fx))]) [0, 10, 11, 3, 4, 5, 6, 7, 8, 9, 1, 2] (by decide +kernel) rfl
            rw [hQQ]
            exact W.iret (v := i) hx hb hr (fun t ht hW => ⟨⟨i, i, rfl, rfl, ⟨lu_7, fu_7, fma, lma, by rw [ht]; exact hP9, hD9, by omega, g_fma, g_lma, by omega, LO_f hlo (fun e9 => c_5 (hg4.trans e9)) hg6 (by rw [← hg6]) hf7_2 (by omega) (by omega) (by omega)⟩⟩, hS.F ht⟩) hS.2.2 dX1_layOut_90
        · have tc_5 : r_4.toInt = 65533 := v_eq c_5
          refine lv_aload_n hx hb dX1_layOut_38 rfl (lv_at hl 1 rfl) ?_
          refine lv_aload_n hx hb dX1_layOut_39 rfl (lv_at hl 1 rfl) ?_
          refine va_get (D := (dC, dI)) (ci := 1) (v := .int lma) (C := RX1) (T := TX1) (N := 20) hx hb hts in_X1 hown hK hP 0 rfl rfl 19 (by decide) (hts (.fieldLink RX1 85 "TextMender$Choices" "lastMark" "I") (List.mem_of_getElem? (i := 3) rfl)) (fun _ h9 => h9) rfl dX1_layOut_40 ?_
          refine va_put (D := (dC, dI)) (ci := 1) (v := .int lma) (ty := .int) (C := RX1) (T := TX1) (N := 20) hx hb hts in_X1 tyX1 tyX1_ok nmX1 hown hK hP hD hS 0 rfl rfl 18 (by decide) (hts (.fieldLink RX1 82 "TextMender$Choices" "firstMark" "I") (List.mem_of_getElem? (i := 2) rfl)) (fun _ h9 => h9) rfl (by decide +kernel) rfl rfl (Nat.le_of_ble_eq_true rfl) dX1_layOut_43 (fun H locs hPn hDn hSn => ?_)
          clear hP hD hS
          have hP : va_P (dC, dI) vwCl [(oW, .inr (1, [.ref oC, .ref oK, .ref nw, .ref w1, .ref w2, .ref w3, .ref o7, .ref o8, .ref o9, .ref w4, .ref w5, .ref w6, .ref w7, .int ke, .int tl, .int fsh, .int wi, .int ri, .int lma, .int lma])), (aw, .inl (cI, 800, .inl fwa)), (oC, .inr (2, [.ref o4, .ref o5])), (o4, .inr (10, [.ref a41, .ref a42, .ref a43, .int l4])), (a42, .inl (cI, 512, .inl f42)), (a43, .inl (cI, 512, .inl f43)), (o5, .inr (10, [.ref a51, .ref a52, .ref a53, .int l5])), (a52, .inl (cI, 512, .inl f52)), (a53, .inl (cI, 512, .inl f53)), (nw, .inr (5, [.ref aw, .int lwa])), (nx, .inr (5, [.ref ax, .int lx])), (ax, .inl (cI, 300, .inl fx))] H := hPn
          have hD : va_D A [(oW, .inr (1, [.ref oC, .ref oK, .ref nw, .ref w1, .ref w2, .ref w3, .ref o7, .ref o8, .ref o9, .ref w4, .ref w5, .ref w6, .ref w7, .int ke, .int tl, .int fsh, .int wi, .int ri, .int lma, .int lma])), (aw, .inl (cI, 800, .inl fwa)), (oC, .inr (2, [.ref o4, .ref o5])), (o4, .inr (10, [.ref a41, .ref a42, .ref a43, .int l4])), (a42, .inl (cI, 512, .inl f42)), (a43, .inl (cI, 512, .inl f43)), (o5, .inr (10, [.ref a51, .ref a52, .ref a53, .int l5])), (a52, .inl (cI, 512, .inl f52)), (a53, .inl (cI, 512, .inl f53)), (nw, .inr (5, [.ref aw, .int lwa])), (nx, .inr (5, [.ref ax, .int lx])), (ax, .inl (cI, 300, .inl fx))] := hDn
          have hS := hSn
          clear hPn hDn hSn
          refine lv_aload_n hx hb dX1_layOut_46 rfl (lv_at hl 1 rfl) ?_
          refine lv_aload_n hx hb dX1_layOut_47 rfl (lv_at hl 1 rfl) ?_
          refine va_get (D := (dC, dI)) (ci := 1) (v := .ref nw) (C := RX1) (T := TX1) (N := 20) hx hb hts in_X1 hown hK hP 0 rfl rfl 2 (by decide) (hts (.fieldLink RX1 16 "TextMender$Choices" "bytes" "LTextMender$Numbers;") (List.mem_of_getElem? (i := 1) rfl)) (fun _ h9 => h9) rfl dX1_layOut_48 ?_
          have hPc := hP.sub (ws' := [(nw, .inr (5, [.ref aw, .int lwa]))]) [9] rfl
          have hDc := hD.sub (ws' := [(nw, .inr (5, [.ref aw, .int lwa]))]) [9] (by decide +kernel) rfl
          have hFc := va_free (wc := [(nw, .inr (5, [.ref aw, .int lwa]))]) hD hS hA [9] rfl
          refine va_calli (va_runV (As := []) (rest := [.ref oW]) ⟨hx, hb, hml, hown, hts⟩ (m_X5_length l dC dI cI cS H.size nw aw lwa ) (cwV 0 hts gX1_layOut_X5_length rfl rfl rfl (by decide +kernel) ⟨Nat.le_of_ble_eq_true rfl, Nat.le_of_ble_eq_true rfl⟩) ⟨fun a U g mk q => by obtain ⟨q0, q1, qP, qK, qD⟩ := q; exact ⟨q0, q1, qP, va_K.moved (u := U) (U := U.calling g mk a) (Vm.Alike.refl U.vm) qK, qD⟩, va_recv hK hPc (ci := 5) (q0 := 0) rfl rfl, fun U hU hW => ⟨rfl, by rw [hU], by rw [hU]; exact hPc, va_K.moved hW.alike hK, hDc.weaken (fun _ _ _ _ => trivial)⟩⟩ rfl rfl hl.1 rfl (lv_room (Nat.le_of_ble_eq_true rfl)) dX1_layOut_51 ⟨Nat.le_of_ble_eq_true rfl, Nat.le_of_ble_eq_true rfl⟩) hS (fun q _ h => hFc q h) hFc (fun r_10 u t H1 locs ht hvm hw hB hz1 hk1 hSn => ?_)
          subst hw
          obtain ⟨hP1, hD1, hf10_0⟩ := hB
          rw [ht] at hP1
          obtain ⟨hPn, hDn⟩ := va_join (wr := [(oW, .inr (1, [.ref oC, .ref oK, .ref nw, .ref w1, .ref w2, .ref w3, .ref o7, .ref o8, .ref o9, .ref w4, .ref w5, .ref w6, .ref w7, .int ke, .int tl, .int fsh, .int wi, .int ri, .int lma, .int lma])), (aw, .inl (cI, 800, .inl fwa)), (oC, .inr (2, [.ref o4, .ref o5])), (o4, .inr (10, [.ref a41, .ref a42, .ref a43, .int l4])), (a42, .inl (cI, 512, .inl f42)), (a43, .inl (cI, 512, .inl f43)), (o5, .inr (10, [.ref a51, .ref a52, .ref a53, .int l5])), (a52, .inl (cI, 512, .inl f52)), (a53, .inl (cI, 512, .inl f53)), (nx, .inr (5, [.ref ax, .int lx])), (ax, .inl (cI, 300, .inl fx))]) (w1 := [(nw, .inr (5, [.ref aw, .int lwa]))]) hP hD [9] [0, 1, 2, 3, 4, 5, 6, 7, 8, 10, 11] rfl rfl (by decide +kernel) (by decide +kernel) hk1 hFc hP1 hD1
          clear hP hD hS hPc hDc hFc hk1 hz1 hvm ht hP1 hD1
          generalize H1 = H at hPn hSn ⊢
          have hP : va_P (dC, dI) vwCl [(oW, .inr (1, [.ref oC, .ref oK, .ref nw, .ref w1, .ref w2, .ref w3, .ref o7, .ref o8, .ref o9, .ref w4, .ref w5, .ref w6, .ref w7, .int ke, .int tl, .int fsh, .int wi, .int ri, .int lma, .int lma])), (aw, .inl (cI, 800, .inl fwa)), (oC, .inr (2, [.ref o4, .ref o5])), (o4, .inr (10, [.ref a41, .ref a42, .ref a43, .int l4])), (a42, .inl (cI, 512, .inl f42)), (a43, .inl (cI, 512, .inl f43)), (o5, .inr (10, [.ref a51, .ref a52, .ref a53, .int l5])), (a52, .inl (cI, 512, .inl f52)), (a53, .inl (cI, 512, .inl f53)), (nx, .inr (5, [.ref ax, .int lx])), (ax, .inl (cI, 300, .inl fx)), (nw, .inr (5, [.ref aw, .int lwa]))] H := hPn
          have hD : va_D A [(oW, .inr (1, [.ref oC, .ref oK, .ref nw, .ref w1, .ref w2, .ref w3, .ref o7, .ref o8, .ref o9, .ref w4, .ref w5, .ref w6, .ref w7, .int ke, .int tl, .int fsh, .int wi, .int ri, .int lma, .int lma])), (aw, .inl (cI, 800, .inl fwa)), (oC, .inr (2, [.ref o4, .ref o5])), (o4, .inr (10, [.ref a41, .ref a42, .ref a43, .int l4])), (a42, .inl (cI, 512, .inl f42)), (a43, .inl (cI, 512, .inl f43)), (o5, .inr (10, [.ref a51, .ref a52, .ref a53, .int l5])), (a52, .inl (cI, 512, .inl f52)), (a53, .inl (cI, 512, .inl f53)), (nx, .inr (5, [.ref ax, .int lx])), (ax, .inl (cI, 300, .inl fx)), (nw, .inr (5, [.ref aw, .int lwa]))] := hDn
          have hS := hSn
          clear hPn hDn hSn
          rw [hf10_0]
          refine va_put (D := (dC, dI)) (ci := 1) (v := .int lwa) (ty := .int) (C := RX1) (T := TX1) (N := 20) hx hb hts in_X1 tyX1 tyX1_ok nmX1 hown hK hP hD hS 0 rfl rfl 19 (by decide) (hts (.fieldLink RX1 85 "TextMender$Choices" "lastMark" "I") (List.mem_of_getElem? (i := 3) rfl)) (fun _ h9 => h9) rfl (by decide +kernel) rfl rfl (Nat.le_of_ble_eq_true rfl) dX1_layOut_54 (fun H locs hPn hDn hSn => ?_)
          clear hP hD hS
          have hP : va_P (dC, dI) vwCl [(oW, .inr (1, [.ref oC, .ref oK, .ref nw, .ref w1, .ref w2, .ref w3, .ref o7, .ref o8, .ref o9, .ref w4, .ref w5, .ref w6, .ref w7, .int ke, .int tl, .int fsh, .int wi, .int ri, .int lma, .int lwa])), (aw, .inl (cI, 800, .inl fwa)), (oC, .inr (2, [.ref o4, .ref o5])), (o4, .inr (10, [.ref a41, .ref a42, .ref a43, .int l4])), (a42, .inl (cI, 512, .inl f42)), (a43, .inl (cI, 512, .inl f43)), (o5, .inr (10, [.ref a51, .ref a52, .ref a53, .int l5])), (a52, .inl (cI, 512, .inl f52)), (a53, .inl (cI, 512, .inl f53)), (nx, .inr (5, [.ref ax, .int lx])), (ax, .inl (cI, 300, .inl fx)), (nw, .inr (5, [.ref aw, .int lwa]))] H := hPn
          have hD : va_D A [(oW, .inr (1, [.ref oC, .ref oK, .ref nw, .ref w1, .ref w2, .ref w3, .ref o7, .ref o8, .ref o9, .ref w4, .ref w5, .ref w6, .ref w7, .int ke, .int tl, .int fsh, .int wi, .int ri, .int lma, .int lwa])), (aw, .inl (cI, 800, .inl fwa)), (oC, .inr (2, [.ref o4, .ref o5])), (o4, .inr (10, [.ref a41, .ref a42, .ref a43, .int l4])), (a42, .inl (cI, 512, .inl f42)), (a43, .inl (cI, 512, .inl f43)), (o5, .inr (10, [.ref a51, .ref a52, .ref a53, .int l5])), (a52, .inl (cI, 512, .inl f52)), (a53, .inl (cI, 512, .inl f53)), (nx, .inr (5, [.ref ax, .int lx])), (ax, .inl (cI, 300, .inl fx)), (nw, .inr (5, [.ref aw, .int lwa]))] := hDn
          have hS := hSn
          clear hPn hDn hSn
          refine lv_aload_n hx hb dX1_layOut_57 rfl (lv_at hl 1 rfl) ?_
          refine va_get (D := (dC, dI)) (ci := 1) (v := .ref nw) (C := RX1) (T := TX1) (N := 20) hx hb hts in_X1 hown hK hP 0 rfl rfl 2 (by decide) (hts (.fieldLink RX1 16 "TextMender$Choices" "bytes" "LTextMender$Numbers;") (List.mem_of_getElem? (i := 1) rfl)) (fun _ h9 => h9) rfl dX1_layOut_58 ?_
          refine lv_iconst (v := 0) hx hb dX1_layOut_61 (by decide) ?_
          have hPc := hP.sub (ws' := [(nw, .inr (5, [.ref aw, .int lwa])), (aw, .inl (cI, 800, .inl fwa))]) [11, 1] rfl
          have hDc := hD.sub (ws' := [(nw, .inr (5, [.ref aw, .int lwa])), (aw, .inl (cI, 800, .inl fwa))]) [11, 1] (by decide +kernel) rfl
          have hFc := va_free (wc := [(nw, .inr (5, [.ref aw, .int lwa])), (aw, .inl (cI, 800, .inl fwa))]) hD hS hA [11, 1] rfl
          refine va_calli (va_runV (As := [.int 0]) (rest := []) ⟨hx, hb, hml, hown, hts⟩ (m_X5_add l dC dI cI cS H.size nw aw 800 lwa fwa 0 (by omega) (by omega)) (cwV 1 hts gX1_layOut_X5_add rfl rfl rfl (by decide +kernel) ⟨Nat.le_of_ble_eq_true rfl, Nat.le_of_ble_eq_true rfl⟩) ⟨fun a U g mk q => by obtain ⟨q0, q1, qP, qK, qD⟩ := q; exact ⟨q0, q1, qP, va_K.moved (u := U) (U := U.calling g mk a) (Vm.Alike.refl U.vm) qK, qD⟩, va_recv hK hPc (ci := 5) (q0 := 0) rfl rfl, fun U hU hW => ⟨rfl, by rw [hU], by rw [hU]; exact hPc, va_K.moved hW.alike hK, hDc.weaken (fun _ _ _ _ => trivial)⟩⟩ rfl rfl hl.1 rfl (lv_room (Nat.le_of_ble_eq_true rfl)) dX1_layOut_62 ⟨Nat.le_of_ble_eq_true rfl, Nat.le_of_ble_eq_true rfl⟩) hS (fun q _ h => hFc q h) hFc (fun r_11 u t H1 locs ht hvm hw hB hz1 hk1 hSn => ?_)
          subst hw
          obtain ⟨lu_11, fu_11, hP1, hD1, hf11_0, hf11_1, hf11_2⟩ := hB
          rw [ht] at hP1
          obtain ⟨hPn, hDn⟩ := va_join (wr := [(oW, .inr (1, [.ref oC, .ref oK, .ref nw, .ref w1, .ref w2, .ref w3, .ref o7, .ref o8, .ref o9, .ref w4, .ref w5, .ref w6, .ref w7, .int ke, .int tl, .int fsh, .int wi, .int ri, .int lma, .int lwa])), (oC, .inr (2, [.ref o4, .ref o5])), (o4, .inr (10, [.ref a41, .ref a42, .ref a43, .int l4])), (a42, .inl (cI, 512, .inl f42)), (a43, .inl (cI, 512, .inl f43)), (o5, .inr (10, [.ref a51, .ref a52, .ref a53, .int l5])), (a52, .inl (cI, 512, .inl f52)), (a53, .inl (cI, 512, .inl f53)), (nx, .inr (5, [.ref ax, .int lx])), (ax, .inl (cI, 300, .inl fx))]) (w1 := [(nw, .inr (5, [.ref aw, .int lu_11])), (aw, .inl (cI, 800, .inl fu_11))]) hP hD [11, 1] [0, 2, 3, 4, 5, 6, 7, 8, 9, 10] rfl rfl (by decide +kernel) (by decide +kernel) hk1 hFc hP1 hD1
          clear hP hD hS hPc hDc hFc hk1 hz1 hvm ht hP1 hD1
          generalize H1 = H at hPn hSn ⊢
          have hP : va_P (dC, dI) vwCl [(oW, .inr (1, [.ref oC, .ref oK, .ref nw, .ref w1, .ref w2, .ref w3, .ref o7, .ref o8, .ref o9, .ref w4, .ref w5, .ref w6, .ref w7, .int ke, .int tl, .int fsh, .int wi, .int ri, .int lma, .int lwa])), (oC, .inr (2, [.ref o4, .ref o5])), (o4, .inr (10, [.ref a41, .ref a42, .ref a43, .int l4])), (a42, .inl (cI, 512, .inl f42)), (a43, .inl (cI, 512, .inl f43)), (o5, .inr (10, [.ref a51, .ref a52, .ref a53, .int l5])), (a52, .inl (cI, 512, .inl f52)), (a53, .inl (cI, 512, .inl f53)), (nx, .inr (5, [.ref ax, .int lx])), (ax, .inl (cI, 300, .inl fx)), (nw, .inr (5, [.ref aw, .int lu_11])), (aw, .inl (cI, 800, .inl fu_11))] H := hPn
          have hD : va_D A [(oW, .inr (1, [.ref oC, .ref oK, .ref nw, .ref w1, .ref w2, .ref w3, .ref o7, .ref o8, .ref o9, .ref w4, .ref w5, .ref w6, .ref w7, .int ke, .int tl, .int fsh, .int wi, .int ri, .int lma, .int lwa])), (oC, .inr (2, [.ref o4, .ref o5])), (o4, .inr (10, [.ref a41, .ref a42, .ref a43, .int l4])), (a42, .inl (cI, 512, .inl f42)), (a43, .inl (cI, 512, .inl f43)), (o5, .inr (10, [.ref a51, .ref a52, .ref a53, .int l5])), (a52, .inl (cI, 512, .inl f52)), (a53, .inl (cI, 512, .inl f53)), (nx, .inr (5, [.ref ax, .int lx])), (ax, .inl (cI, 300, .inl fx)), (nw, .inr (5, [.ref aw, .int lu_11])), (aw, .inl (cI, 800, .inl fu_11))] := hDn
          have hS := hSn
          clear hPn hDn hSn
          have ha11 := F_add_l hf11_2 (by omega)
          refine lv_pop hx hb dX1_layOut_65 rfl ?_
          refine lv_goto (tgt := 91) hx hb dX1_layOut_66 (by decide) ?_
          obtain ⟨x_12, ex_12⟩ : ∃ y : Int32, y = i + 1 := ⟨_, rfl⟩
          have tx_12 : x_12.toInt = i.toInt + 1 := v_add ex_12 (by show -2147483648 ≤ i.toInt + 1; omega) (by show i.toInt + 1 < 2147483648; omega)
          refine lv_iinc (v := x_12) (lv' := [(3, .int x_12), (0, .ref oW), (1, .int cd), (2, .ref nx)]) hx hb dX1_layOut_91 hl (k := 0) rfl (by rw [ex_12]; rfl) (by decide) rfl (fun ls hl => ?_)
          refine lv_goto (tgt := 20) hx hb dX1_layOut_94 (by decide) ?_
          exact ih_20 x_12 lu_11 lma lwa fu_11 _ _ _ (ms_lt hm_20 (by show ((300 - x_12.toInt : Int)) < 300 - i.toInt; omega) (by show (0 : Int) < 300 - i.toInt; omega)) (by show 0 ≤ x_12.toInt ∧ x_12.toInt ≤ 100; omega) (by show 0 ≤ lu_11.toInt ∧ lu_11.toInt ≤ 800; omega) (g_lma) (by show -1 ≤ lwa.toInt ∧ lwa.toInt ≤ 800; omega) (by show x_12.toInt ≤ lx.toInt; omega) (by show lu_11.toInt ≤ 8 * x_12.toInt; omega) (LO_m hlo (by rw [← hg4]; exact c_5) hf11_2 rfl (by omega) (by omega) rfl (by omega) (by rw [ix_eq (x := x_12) (N := i.toNatClampNeg + 1) (by omega)])) (hP.sub [0, 11, 1, 2, 3, 4, 5, 6, 7, 8, 9, 10] rfl) (hD.sub [0, 11, 1, 2, 3, 4, 5, 6, 7, 8, 9, 10] (by decide +kernel) rfl) hS (lv_sub hl [0, 1, 2, 3] rfl)
  exact LOOP_20 _ 0 lu_1 (-1) (-1) fw _ _ _ (ms_s _) (by decide) (by show 0 ≤ lu_1.toInt ∧ lu_1.toInt ≤ 800; omega) (by decide) (by decide) (by show 0 ≤ lx.toInt; omega) (by show lu_1.toInt ≤ 8 * 0; omega) (LO_0 rfl (by omega) rfl rfl) hP hD hS (lv_sub hl [0, 1, 2, 3] rfl)

theorem tl_b {T : Int32 → Int32 → Int32} {D : Nat → Nat} {X W1 W2 W3 : Nat → Int32} {m q : Nat} (ht : TLK T D X m W1 W2 W3 q) (h3 : ¬ W3 q = -1) : (0 ≤ (W1 q).toInt ∧ (W1 q).toInt ≤ 65535) ∧ 0 ≤ (W2 q).toInt ∧ (W2 q).toInt ≤ 160000 := by
  rcases ht with ⟨t1, _⟩ | ⟨c, t1, t2, t3, t4, t5, t6, t7, t8, t9⟩
  · exact absurd t1 h3
  · omega
theorem tl_lb {l : Int} {pp pp' z : Int32} {W W' : Nat → Int32} (h : ∀ p : Nat, pp.toInt < (p : Int) → (p : Int) ≤ l → (W p).toInt = -1 ∨ (0 ≤ (W p).toInt ∧ (W p).toInt ≤ l - p)) (e : W' = upd W pp.toNatClampNeg z) (h0 : 0 ≤ pp.toInt) (hp : pp'.toInt = pp.toInt - 1) (hz : z.toInt = -1 ∨ (0 ≤ z.toInt ∧ z.toInt ≤ l - pp.toInt)) : ∀ p : Nat, pp'.toInt < (p : Int) → (p : Int) ≤ l → (W' p).toInt = -1 ∨ (0 ≤ (W' p).toInt ∧ (W' p).toInt ≤ l - p) := by
  intro p p1 p2
  have c := v_clamp h0
  by_cases w : p = pp.toNatClampNeg
  · rw [e, w, pk_us]
    rcases hz with hz | hz
    · exact Or.inl hz
    · exact Or.inr (by omega)
  · rw [e, pk_un w]; exact h p (by omega) p2

set_option maxHeartbeats 40000000 in
set_option maxRecDepth 100000 in
theorem f_X1_findTails (l : Launch) (dC : Nat → ClassId) (dI : Nat → Nat → Nat) (cI cS : ClassId) (sz : Nat) (oW : Nat) (oC : Nat) (oK : Nat) (nw : Nat) (w1 : Nat) (w2 : Nat) (w3 : Nat) (o7 : Nat) (o8 : Nat) (o9 : Nat) (w4 : Nat) (w5 : Nat) (w6 : Nat) (w7 : Nat) (aw : Nat) (o4 : Nat) (o5 : Nat) (a41 : Nat) (a42 : Nat) (a43 : Nat) (a51 : Nat) (a52 : Nat) (a53 : Nat) (k1 : Nat) (k2 : Nat) (ke : Int32) (tl : Int32) (fsh : Int32) (wi : Int32) (ri : Int32) (fm : Int32) (lm : Int32) (fW1 : Nat → Int32) (fW2 : Nat → Int32) (fW3 : Nat → Int32) (lw : Int32) (fw : Nat → Int32) (l4 : Int32) (f41 : Nat → Int32) (l5 : Int32) (f51 : Nat → Int32) (lK : Int32) (fK1 : Nat → Int32) (fK2 : Nat → Int32) (g_ke : 0 ≤ ke.toInt ∧ ke.toInt ≤ 200) (g_fsh : 0 ≤ fsh.toInt ∧ fsh.toInt ≤ 1) (g_fm : -1 ≤ fm.toInt ∧ fm.toInt ≤ 800) (g_lm : -1 ≤ lm.toInt ∧ lm.toInt ≤ 800) (g_lw : 0 ≤ lw.toInt ∧ lw.toInt ≤ 800) (g_lK : 0 ≤ lK.toInt ∧ lK.toInt ≤ 300) (hlw : lm.toInt < lw.toInt) (hlm0 : 0 ≤ lm.toInt) (hby : prg lw.toInt 0 255 fw) (hL4 : prg 256 (-1) 65535 f41) (hL5 : prg 256 (-1) 65535 f51) (hT : HT 1024 1023 hsK fK1 fK2) (ho : (occ fK2 1024 : Int) ≤ lK.toInt) (hV : prg 1024 (-1) 200 fK2) : Met l yX1_findTails wsX1_findTails ({ frames := 3, cells := 0, slots := 0, locals := 74 } : Room) (va_Pc [.ref oW] (fun U => U.heap.size = sz ∧ va_P (dC, dI) vwCl [(oW, .inr (1, [.ref oC, .ref oK, .ref nw, .ref w1, .ref w2, .ref w3, .ref o7, .ref o8, .ref o9, .ref w4, .ref w5, .ref w6, .ref w7, .int ke, .int tl, .int fsh, .int wi, .int ri, .int fm, .int lm])), (w1, .inl (cI, 801, .inl fW1)), (w2, .inl (cI, 801, .inl fW2)), (w3, .inl (cI, 801, .inl fW3)), (nw, .inr (5, [.ref aw, .int lw])), (aw, .inl (cI, 800, .inl fw)), (oC, .inr (2, [.ref o4, .ref o5])), (o4, .inr (10, [.ref a41, .ref a42, .ref a43, .int l4])), (a41, .inl (cI, 256, .inl f41)), (o5, .inr (10, [.ref a51, .ref a52, .ref a53, .int l5])), (a51, .inl (cI, 256, .inl f51)), (oK, .inr (3, [.ref k1, .ref k2, .int lK])), (k1, .inl (cI, 1024, .inl fK1)), (k2, .inl (cI, 1024, .inl fK2))] U.heap ∧ va_K (dC, dI) vwCl [(cI, .int), (cS, .short)] U ∧ va_D (fun _ => True) [(oW, .inr (1, [.ref oC, .ref oK, .ref nw, .ref w1, .ref w2, .ref w3, .ref o7, .ref o8, .ref o9, .ref w4, .ref w5, .ref w6, .ref w7, .int ke, .int tl, .int fsh, .int wi, .int ri, .int fm, .int lm])), (w1, .inl (cI, 801, .inl fW1)), (w2, .inl (cI, 801, .inl fW2)), (w3, .inl (cI, 801, .inl fW3)), (nw, .inr (5, [.ref aw, .int lw])), (aw, .inl (cI, 800, .inl fw)), (oC, .inr (2, [.ref o4, .ref o5])), (o4, .inr (10, [.ref a41, .ref a42, .ref a43, .int l4])), (a41, .inl (cI, 256, .inl f41)), (o5, .inr (10, [.ref a51, .ref a52, .ref a53, .int l5])), (a51, .inl (cI, 256, .inl f51)), (oK, .inr (3, [.ref k1, .ref k2, .int lK])), (k1, .inl (cI, 1024, .inl fK1)), (k2, .inl (cI, 1024, .inl fK2))] ∧ va_Nw (.methodLinkNest RX2 52 yX11_isLetter "TextMender") U)) (va_Qv (fun (_ : Unit) => True) (fun _ t => ∃ (fW1' : Nat → Int32) (fW2' : Nat → Int32) (fW3' : Nat → Int32), va_P (dC, dI) vwCl [(oW, .inr (1, [.ref oC, .ref oK, .ref nw, .ref w1, .ref w2, .ref w3, .ref o7, .ref o8, .ref o9, .ref w4, .ref w5, .ref w6, .ref w7, .int ke, .int tl, .int fsh, .int wi, .int ri, .int fm, .int lm])), (w1, .inl (cI, 801, .inl fW1')), (w2, .inl (cI, 801, .inl fW2')), (w3, .inl (cI, 801, .inl fW3')), (nw, .inr (5, [.ref aw, .int lw])), (aw, .inl (cI, 800, .inl fw)), (oC, .inr (2, [.ref o4, .ref o5])), (o4, .inr (10, [.ref a41, .ref a42, .ref a43, .int l4])), (a41, .inl (cI, 256, .inl f41)), (o5, .inr (10, [.ref a51, .ref a52, .ref a53, .int l5])), (a51, .inl (cI, 256, .inl f51)), (oK, .inr (3, [.ref k1, .ref k2, .int lK])), (k1, .inl (cI, 1024, .inl fK1)), (k2, .inl (cI, 1024, .inl fK2))] t.heap ∧ va_D (va_A [(oW, .inr (1, [.ref oC, .ref oK, .ref nw, .ref w1, .ref w2, .ref w3, .ref o7, .ref o8, .ref o9, .ref w4, .ref w5, .ref w6, .ref w7, .int ke, .int tl, .int fsh, .int wi, .int ri, .int fm, .int lm])), (w1, .inl (cI, 801, .inl fW1)), (w2, .inl (cI, 801, .inl fW2)), (w3, .inl (cI, 801, .inl fW3)), (nw, .inr (5, [.ref aw, .int lw])), (aw, .inl (cI, 800, .inl fw)), (oC, .inr (2, [.ref o4, .ref o5])), (o4, .inr (10, [.ref a41, .ref a42, .ref a43, .int l4])), (a41, .inl (cI, 256, .inl f41)), (o5, .inr (10, [.ref a51, .ref a52, .ref a53, .int l5])), (a51, .inl (cI, 256, .inl f51)), (oK, .inr (3, [.ref k1, .ref k2, .int lK])), (k1, .inl (cI, 1024, .inl fK1)), (k2, .inl (cI, 1024, .inl fK2))] sz) [(oW, .inr (1, [.ref oC, .ref oK, .ref nw, .ref w1, .ref w2, .ref w3, .ref o7, .ref o8, .ref o9, .ref w4, .ref w5, .ref w6, .ref w7, .int ke, .int tl, .int fsh, .int wi, .int ri, .int fm, .int lm])), (w1, .inl (cI, 801, .inl fW1')), (w2, .inl (cI, 801, .inl fW2')), (w3, .inl (cI, 801, .inl fW3')), (nw, .inr (5, [.ref aw, .int lw])), (aw, .inl (cI, 800, .inl fw)), (oC, .inr (2, [.ref o4, .ref o5])), (o4, .inr (10, [.ref a41, .ref a42, .ref a43, .int l4])), (a41, .inl (cI, 256, .inl f41)), (o5, .inr (10, [.ref a51, .ref a52, .ref a53, .int l5])), (a51, .inl (cI, 256, .inl f51)), (oK, .inr (3, [.ref k1, .ref k2, .int lK])), (k1, .inl (cI, 1024, .inl fK1)), (k2, .inl (cI, 1024, .inl fK2))] ∧ (∀ p : Nat, lm.toInt < (p : Int) → (p : Int) ≤ lw.toInt → TLK (tcC fK1 fK2) (dl wi f41 f51 fw lw.toInt) (dx wi f41 f51 fw lw.toInt) lw.toNatClampNeg fW1' fW2' fW3' p)) (va_A [(oW, .inr (1, [.ref oC, .ref oK, .ref nw, .ref w1, .ref w2, .ref w3, .ref o7, .ref o8, .ref o9, .ref w4, .ref w5, .ref w6, .ref w7, .int ke, .int tl, .int fsh, .int wi, .int ri, .int fm, .int lm])), (w1, .inl (cI, 801, .inl fW1)), (w2, .inl (cI, 801, .inl fW2)), (w3, .inl (cI, 801, .inl fW3)), (nw, .inr (5, [.ref aw, .int lw])), (aw, .inl (cI, 800, .inl fw)), (oC, .inr (2, [.ref o4, .ref o5])), (o4, .inr (10, [.ref a41, .ref a42, .ref a43, .int l4])), (a41, .inl (cI, 256, .inl f41)), (o5, .inr (10, [.ref a51, .ref a52, .ref a53, .int l5])), (a51, .inl (cI, 256, .inl f51)), (oK, .inr (3, [.ref k1, .ref k2, .int lK])), (k1, .inl (cI, 1024, .inl fK1)), (k2, .inl (cI, 1024, .inl fK2))] sz)) 0 0 (va_A [(oW, .inr (1, [.ref oC, .ref oK, .ref nw, .ref w1, .ref w2, .ref w3, .ref o7, .ref o8, .ref o9, .ref w4, .ref w5, .ref w6, .ref w7, .int ke, .int tl, .int fsh, .int wi, .int ri, .int fm, .int lm])), (w1, .inl (cI, 801, .inl fW1)), (w2, .inl (cI, 801, .inl fW2)), (w3, .inl (cI, 801, .inl fW3)), (nw, .inr (5, [.ref aw, .int lw])), (aw, .inl (cI, 800, .inl fw)), (oC, .inr (2, [.ref o4, .ref o5])), (o4, .inr (10, [.ref a41, .ref a42, .ref a43, .int l4])), (a41, .inl (cI, 256, .inl f41)), (o5, .inr (10, [.ref a51, .ref a52, .ref a53, .int l5])), (a51, .inl (cI, 256, .inl f51)), (oK, .inr (3, [.ref k1, .ref k2, .int lK])), (k1, .inl (cI, 1024, .inl fK1)), (k2, .inl (cI, 1024, .inl fK2))] sz) := by
  refine Met.ofW (cc := cX1_findTails) (maxL := 5) (ret := none) (by decide) rfl ?_
  intro p e s m args below meth c s₁ B hml hv
  obtain ⟨rfl, hsz, hP, hK, hD0, hN52⟩ := hv
  have hx := B.exec
  have hb := B.bytes
  have hr := B.returns
  have hts := atoms_spec (ws := wsX1_findTails) B.pre
  have hown : s.vm.findClass RX1 = some m.cls := findClass_of_methodNamed B.named
  have hlocks := B.notSynchronized
  have in_X1 : ∀ w ∈ wsX10, w ∈ wsX1_findTails := fun _ h => List.mem_cons_of_mem _ (List.mem_append_left _ (List.mem_append_left _ (List.mem_append_left _ (List.mem_append_left _ (List.mem_append_right _ (h))))))
  subst hsz
  have hD := hD0.self (sz := s.heap.size)
  generalize hAe : va_A [(oW, .inr (1, [.ref oC, .ref oK, .ref nw, .ref w1, .ref w2, .ref w3, .ref o7, .ref o8, .ref o9, .ref w4, .ref w5, .ref w6, .ref w7, .int ke, .int tl, .int fsh, .int wi, .int ri, .int fm, .int lm])), (w1, .inl (cI, 801, .inl fW1)), (w2, .inl (cI, 801, .inl fW2)), (w3, .inl (cI, 801, .inl fW3)), (nw, .inr (5, [.ref aw, .int lw])), (aw, .inl (cI, 800, .inl fw)), (oC, .inr (2, [.ref o4, .ref o5])), (o4, .inr (10, [.ref a41, .ref a42, .ref a43, .int l4])), (a41, .inl (cI, 256, .inl f41)), (o5, .inr (10, [.ref a51, .ref a52, .ref a53, .int l5])), (a51, .inl (cI, 256, .inl f51)), (oK, .inr (3, [.ref k1, .ref k2, .int lK])), (k1, .inl (cI, 1024, .inl fK1)), (k2, .inl (cI, 1024, .inl fK2))] s.heap.size = A at hD ⊢
  have hA : ∀ q : Nat, s.heap.size ≤ q → A q := fun q h => by rw [← hAe]; exact Or.inr h
  have hS : va_S A s.heap s.heap [] := va_S.rf
  have hP : va_P (dC, dI) vwCl [(oW, .inr (1, [.ref oC, .ref oK, .ref nw, .ref w1, .ref w2, .ref w3, .ref o7, .ref o8, .ref o9, .ref w4, .ref w5, .ref w6, .ref w7, .int ke, .int tl, .int fsh, .int wi, .int ri, .int fm, .int lm])), (w1, .inl (cI, 801, .inl fW1)), (w2, .inl (cI, 801, .inl fW2)), (w3, .inl (cI, 801, .inl fW3)), (nw, .inr (5, [.ref aw, .int lw])), (aw, .inl (cI, 800, .inl fw)), (oC, .inr (2, [.ref o4, .ref o5])), (o4, .inr (10, [.ref a41, .ref a42, .ref a43, .int l4])), (a41, .inl (cI, 256, .inl f41)), (o5, .inr (10, [.ref a51, .ref a52, .ref a53, .int l5])), (a51, .inl (cI, 256, .inl f51)), (oK, .inr (3, [.ref k1, .ref k2, .int lK])), (k1, .inl (cI, 1024, .inl fK1)), (k2, .inl (cI, 1024, .inl fK2))] s.heap := hP
  have hl := lv_entry ([.ref oW]) (n := 5) (Nat.le_of_ble_eq_true rfl)
  rw [lg_entry_eq]
  generalize (lg_sl ([.ref oW]) ++ List.replicate (5 - (lg_sl ([.ref oW])).length) Slot.unset).toArray = ls at hl ⊢
  have hl : lv_has ls 5 [(0, .ref oW)] := hl
  obtain ⟨QQ, hQQ⟩ : ∃ QQ : Array Value → State → Outcome → State → Prop, QQ = va_Qv (fun (_ : Unit) => True) (fun _ t => ∃ (fW1' : Nat → Int32) (fW2' : Nat → Int32) (fW3' : Nat → Int32), va_P (dC, dI) vwCl [(oW, .inr (1, [.ref oC, .ref oK, .ref nw, .ref w1, .ref w2, .ref w3, .ref o7, .ref o8, .ref o9, .ref w4, .ref w5, .ref w6, .ref w7, .int ke, .int tl, .int fsh, .int wi, .int ri, .int fm, .int lm])), (w1, .inl (cI, 801, .inl fW1')), (w2, .inl (cI, 801, .inl fW2')), (w3, .inl (cI, 801, .inl fW3')), (nw, .inr (5, [.ref aw, .int lw])), (aw, .inl (cI, 800, .inl fw)), (oC, .inr (2, [.ref o4, .ref o5])), (o4, .inr (10, [.ref a41, .ref a42, .ref a43, .int l4])), (a41, .inl (cI, 256, .inl f41)), (o5, .inr (10, [.ref a51, .ref a52, .ref a53, .int l5])), (a51, .inl (cI, 256, .inl f51)), (oK, .inr (3, [.ref k1, .ref k2, .int lK])), (k1, .inl (cI, 1024, .inl fK1)), (k2, .inl (cI, 1024, .inl fK2))] t.heap ∧ va_D A [(oW, .inr (1, [.ref oC, .ref oK, .ref nw, .ref w1, .ref w2, .ref w3, .ref o7, .ref o8, .ref o9, .ref w4, .ref w5, .ref w6, .ref w7, .int ke, .int tl, .int fsh, .int wi, .int ri, .int fm, .int lm])), (w1, .inl (cI, 801, .inl fW1')), (w2, .inl (cI, 801, .inl fW2')), (w3, .inl (cI, 801, .inl fW3')), (nw, .inr (5, [.ref aw, .int lw])), (aw, .inl (cI, 800, .inl fw)), (oC, .inr (2, [.ref o4, .ref o5])), (o4, .inr (10, [.ref a41, .ref a42, .ref a43, .int l4])), (a41, .inl (cI, 256, .inl f41)), (o5, .inr (10, [.ref a51, .ref a52, .ref a53, .int l5])), (a51, .inl (cI, 256, .inl f51)), (oK, .inr (3, [.ref k1, .ref k2, .int lK])), (k1, .inl (cI, 1024, .inl fK1)), (k2, .inl (cI, 1024, .inl fK2))] ∧ (∀ p : Nat, lm.toInt < (p : Int) → (p : Int) ≤ lw.toInt → TLK (tcC fK1 fK2) (dl wi f41 f51 fw lw.toInt) (dx wi f41 f51 fw lw.toInt) lw.toNatClampNeg fW1' fW2' fW3' p)) A := ⟨_, rfl⟩
  rw [← hQQ]
  have z0 : (0 : Int32).toInt = 0 := rfl
  have z1 : (1 : Int32).toInt = 1 := rfl
  have zm1 : (-1 : Int32).toInt = -1 := rfl
  have cw9 := v_clamp (x := lw) (by omega)
  refine lv_aload_n hx hb dX1_findTails_0 rfl (lv_at hl 0 rfl) ?_
  refine va_get (D := (dC, dI)) (ci := 1) (v := .ref nw) (C := RX1) (T := TX1) (N := 20) hx hb hts in_X1 hown hK hP 0 rfl rfl 2 (by decide) (hts (.fieldLink RX1 16 "TextMender$Choices" "bytes" "LTextMender$Numbers;") (List.mem_of_getElem? (i := 1) rfl)) (fun _ h9 => h9) rfl dX1_findTails_1 ?_
  have hPc := hP.sub (ws' := [(nw, .inr (5, [.ref aw, .int lw]))]) [4] rfl
  have hDc := hD.sub (ws' := [(nw, .inr (5, [.ref aw, .int lw]))]) [4] (by decide +kernel) rfl
  have hFc := va_free (wc := [(nw, .inr (5, [.ref aw, .int lw]))]) hD hS hA [4] rfl
  refine va_calli (va_runV (As := []) (rest := []) ⟨hx, hb, hml, hown, hts⟩ (m_X5_length l dC dI cI cS s.heap.size nw aw lw ) (cwV 0 hts gX1_findTails_X5_length rfl rfl rfl (by decide +kernel) ⟨Nat.le_of_ble_eq_true rfl, Nat.le_of_ble_eq_true rfl⟩) ⟨fun a U g mk q => by obtain ⟨q0, q1, qP, qK, qD⟩ := q; exact ⟨q0, q1, qP, va_K.moved (u := U) (U := U.calling g mk a) (Vm.Alike.refl U.vm) qK, qD⟩, va_recv hK hPc (ci := 5) (q0 := 0) rfl rfl, fun U hU hW => ⟨rfl, by rw [hU], by rw [hU]; exact hPc, va_K.moved hW.alike hK, hDc.weaken (fun _ _ _ _ => trivial)⟩⟩ rfl rfl hl.1 rfl (lv_room (Nat.le_of_ble_eq_true rfl)) dX1_findTails_4 ⟨Nat.le_of_ble_eq_true rfl, Nat.le_of_ble_eq_true rfl⟩) hS (fun q _ h => hFc q h) hFc (fun r_1 u t H1 locs ht hvm hw hB hz1 hk1 hSn => ?_)
  subst hw
  obtain ⟨hP1, hD1, hf1_0⟩ := hB
  rw [ht] at hP1
  obtain ⟨hPn, hDn⟩ := va_join (wr := [(oW, .inr (1, [.ref oC, .ref oK, .ref nw, .ref w1, .ref w2, .ref w3, .ref o7, .ref o8, .ref o9, .ref w4, .ref w5, .ref w6, .ref w7, .int ke, .int tl, .int fsh, .int wi, .int ri, .int fm, .int lm])), (w1, .inl (cI, 801, .inl fW1)), (w2, .inl (cI, 801, .inl fW2)), (w3, .inl (cI, 801, .inl fW3)), (aw, .inl (cI, 800, .inl fw)), (oC, .inr (2, [.ref o4, .ref o5])), (o4, .inr (10, [.ref a41, .ref a42, .ref a43, .int l4])), (a41, .inl (cI, 256, .inl f41)), (o5, .inr (10, [.ref a51, .ref a52, .ref a53, .int l5])), (a51, .inl (cI, 256, .inl f51)), (oK, .inr (3, [.ref k1, .ref k2, .int lK])), (k1, .inl (cI, 1024, .inl fK1)), (k2, .inl (cI, 1024, .inl fK2))]) (w1 := [(nw, .inr (5, [.ref aw, .int lw]))]) hP hD [4] [0, 1, 2, 3, 5, 6, 7, 8, 9, 10, 11, 12, 13] rfl rfl (by decide +kernel) (by decide +kernel) hk1 hFc hP1 hD1
  clear hP hD hS hPc hDc hFc hk1 hz1 hvm ht hP1 hD1
  generalize H1 = H at hPn hSn ⊢
  have hP : va_P (dC, dI) vwCl [(oW, .inr (1, [.ref oC, .ref oK, .ref nw, .ref w1, .ref w2, .ref w3, .ref o7, .ref o8, .ref o9, .ref w4, .ref w5, .ref w6, .ref w7, .int ke, .int tl, .int fsh, .int wi, .int ri, .int fm, .int lm])), (w1, .inl (cI, 801, .inl fW1)), (w2, .inl (cI, 801, .inl fW2)), (w3, .inl (cI, 801, .inl fW3)), (aw, .inl (cI, 800, .inl fw)), (oC, .inr (2, [.ref o4, .ref o5])), (o4, .inr (10, [.ref a41, .ref a42, .ref a43, .int l4])), (a41, .inl (cI, 256, .inl f41)), (o5, .inr (10, [.ref a51, .ref a52, .ref a53, .int l5])), (a51, .inl (cI, 256, .inl f51)), (oK, .inr (3, [.ref k1, .ref k2, .int lK])), (k1, .inl (cI, 1024, .inl fK1)), (k2, .inl (cI, 1024, .inl fK2)), (nw, .inr (5, [.ref aw, .int lw]))] H := hPn
  have hD : va_D A [(oW, .inr (1, [.ref oC, .ref oK, .ref nw, .ref w1, .ref w2, .ref w3, .ref o7, .ref o8, .ref o9, .ref w4, .ref w5, .ref w6, .ref w7, .int ke, .int tl, .int fsh, .int wi, .int ri, .int fm, .int lm])), (w1, .inl (cI, 801, .inl fW1)), (w2, .inl (cI, 801, .inl fW2)), (w3, .inl (cI, 801, .inl fW3)), (aw, .inl (cI, 800, .inl fw)), (oC, .inr (2, [.ref o4, .ref o5])), (o4, .inr (10, [.ref a41, .ref a42, .ref a43, .int l4])), (a41, .inl (cI, 256, .inl f41)), (o5, .inr (10, [.ref a51, .ref a52, .ref a53, .int l5])), (a51, .inl (cI, 256, .inl f51)), (oK, .inr (3, [.ref k1, .ref k2, .int lK])), (k1, .inl (cI, 1024, .inl fK1)), (k2, .inl (cI, 1024, .inl fK2)), (nw, .inr (5, [.ref aw, .int lw]))] := hDn
  have hS := hSn
  clear hPn hDn hSn
  rw [hf1_0]
  refine lv_sipush (v := 800) hx hb dX1_findTails_7 (by decide) ?_
  refine va_mmin hx hb (by rw [hml]; exact hl.1.symm) hown (hts (.methodLink RX1 135 Lib.Math.min.name) (List.mem_of_getElem? (i := 2) rfl)) (hts (.static Lib.Math.min.name) (List.mem_of_getElem? (i := 3) rfl)) (hts (.initialized "java/lang/Math") (List.mem_of_getElem? (i := 4) rfl)) (hts (.code Lib.Math.min.name Lib.Math.min.code 2 (some .int)) (List.mem_of_getElem? (i := 5) rfl)) (Nat.le_of_ble_eq_true rfl) (Nat.le_of_ble_eq_true rfl) (Nat.zero_le _) (Nat.zero_le _) dX1_findTails_10 ?_
  refine lv_topi (fun x_2 ex_2 => ?_)
  have tx_2 : x_2.toInt ≤ lw.toInt ∧ x_2.toInt ≤ 800 ∧ (x_2.toInt = lw.toInt ∨ x_2.toInt = 800) := v_min ex_2
  refine lv_istore_n (lv' := [(1, .int x_2), (0, .ref oW)]) hx hb dX1_findTails_13 rfl hl (by decide) rfl (fun ls hl => ?_)
  have e9 : x_2 = lw := v_inj (by omega)
  rw [e9] at hl
  refine lv_aload_n hx hb dX1_findTails_14 rfl (lv_at hl 1 rfl) ?_
  refine va_get (D := (dC, dI)) (ci := 1) (v := .ref w1) (C := RX1) (T := TX1) (N := 20) hx hb hts in_X1 hown hK hP 0 rfl rfl 3 (by decide) (hts (.fieldLink RX1 20 "TextMender$Choices" "tailFirst" "[I") (List.mem_of_getElem? (i := 6) rfl)) (fun _ h9 => h9) rfl dX1_findTails_15 ?_
  refine lv_iload_n hx hb dX1_findTails_18 rfl (lv_at hl 0 rfl) ?_
  refine lv_bipush (v := 32) hx hb dX1_findTails_19 (by decide) ?_
  refine va_iast hx hb hK hP hD hS 1 0 rfl rfl (v_in (by omega)) dX1_findTails_21 (fun H locs hPn hDn hSn => ?_)
  clear hP hD hS
  have hP : va_P (dC, dI) vwCl [(oW, .inr (1, [.ref oC, .ref oK, .ref nw, .ref w1, .ref w2, .ref w3, .ref o7, .ref o8, .ref o9, .ref w4, .ref w5, .ref w6, .ref w7, .int ke, .int tl, .int fsh, .int wi, .int ri, .int fm, .int lm])), (w1, .inl (cI, 801, .inl (upd fW1 (lw : Int32).toNatClampNeg 32))), (w2, .inl (cI, 801, .inl fW2)), (w3, .inl (cI, 801, .inl fW3)), (aw, .inl (cI, 800, .inl fw)), (oC, .inr (2, [.ref o4, .ref o5])), (o4, .inr (10, [.ref a41, .ref a42, .ref a43, .int l4])), (a41, .inl (cI, 256, .inl f41)), (o5, .inr (10, [.ref a51, .ref a52, .ref a53, .int l5])), (a51, .inl (cI, 256, .inl f51)), (oK, .inr (3, [.ref k1, .ref k2, .int lK])), (k1, .inl (cI, 1024, .inl fK1)), (k2, .inl (cI, 1024, .inl fK2)), (nw, .inr (5, [.ref aw, .int lw]))] H := hPn
  have hD : va_D A [(oW, .inr (1, [.ref oC, .ref oK, .ref nw, .ref w1, .ref w2, .ref w3, .ref o7, .ref o8, .ref o9, .ref w4, .ref w5, .ref w6, .ref w7, .int ke, .int tl, .int fsh, .int wi, .int ri, .int fm, .int lm])), (w1, .inl (cI, 801, .inl (upd fW1 (lw : Int32).toNatClampNeg 32))), (w2, .inl (cI, 801, .inl fW2)), (w3, .inl (cI, 801, .inl fW3)), (aw, .inl (cI, 800, .inl fw)), (oC, .inr (2, [.ref o4, .ref o5])), (o4, .inr (10, [.ref a41, .ref a42, .ref a43, .int l4])), (a41, .inl (cI, 256, .inl f41)), (o5, .inr (10, [.ref a51, .ref a52, .ref a53, .int l5])), (a51, .inl (cI, 256, .inl f51)), (oK, .inr (3, [.ref k1, .ref k2, .int lK])), (k1, .inl (cI, 1024, .inl fK1)), (k2, .inl (cI, 1024, .inl fK2)), (nw, .inr (5, [.ref aw, .int lw]))] := hDn
  have hS := hSn
  clear hPn hDn hSn
  obtain ⟨f_3, ef_3⟩ : ∃ g : Nat → Int32, g = upd fW1 (lw : Int32).toNatClampNeg 32 := ⟨_, rfl⟩
  rw [← ef_3] at hP hD
  refine lv_aload_n hx hb dX1_findTails_22 rfl (lv_at hl 1 rfl) ?_
  refine va_get (D := (dC, dI)) (ci := 1) (v := .ref w2) (C := RX1) (T := TX1) (N := 20) hx hb hts in_X1 hown hK hP 0 rfl rfl 4 (by decide) (hts (.fieldLink RX1 24 "TextMender$Choices" "tailSum" "[I") (List.mem_of_getElem? (i := 7) rfl)) (fun _ h9 => h9) rfl dX1_findTails_23 ?_
  refine lv_iload_n hx hb dX1_findTails_26 rfl (lv_at hl 0 rfl) ?_
  refine lv_iconst (v := 0) hx hb dX1_findTails_27 (by decide) ?_
  refine va_iast hx hb hK hP hD hS 2 0 rfl rfl (v_in (by omega)) dX1_findTails_28 (fun H locs hPn hDn hSn => ?_)
  clear hP hD hS
  have hP : va_P (dC, dI) vwCl [(oW, .inr (1, [.ref oC, .ref oK, .ref nw, .ref w1, .ref w2, .ref w3, .ref o7, .ref o8, .ref o9, .ref w4, .ref w5, .ref w6, .ref w7, .int ke, .int tl, .int fsh, .int wi, .int ri, .int fm, .int lm])), (w1, .inl (cI, 801, .inl f_3)), (w2, .inl (cI, 801, .inl (upd fW2 (lw : Int32).toNatClampNeg 0))), (w3, .inl (cI, 801, .inl fW3)), (aw, .inl (cI, 800, .inl fw)), (oC, .inr (2, [.ref o4, .ref o5])), (o4, .inr (10, [.ref a41, .ref a42, .ref a43, .int l4])), (a41, .inl (cI, 256, .inl f41)), (o5, .inr (10, [.ref a51, .ref a52, .ref a53, .int l5])), (a51, .inl (cI, 256, .inl f51)), (oK, .inr (3, [.ref k1, .ref k2, .int lK])), (k1, .inl (cI, 1024, .inl fK1)), (k2, .inl (cI, 1024, .inl fK2)), (nw, .inr (5, [.ref aw, .int lw]))] H := hPn
  have hD : va_D A [(oW, .inr (1, [.ref oC, .ref oK, .ref nw, .ref w1, .ref w2, .ref w3, .ref o7, .ref o8, .ref o9, .ref w4, .ref w5, .ref w6, .ref w7, .int ke, .int tl, .int fsh, .int wi, .int ri, .int fm, .int lm])), (w1, .inl (cI, 801, .inl f_3)), (w2, .inl (cI, 801, .inl (upd fW2 (lw : Int32).toNatClampNeg 0))), (w3, .inl (cI, 801, .inl fW3)), (aw, .inl (cI, 800, .inl fw)), (oC, .inr (2, [.ref o4, .ref o5])), (o4, .inr (10, [.ref a41, .ref a42, .ref a43, .int l4])), (a41, .inl (cI, 256, .inl f41)), (o5, .inr (10, [.ref a51, .ref a52, .ref a53, .int l5])), (a51, .inl (cI, 256, .inl f51)), (oK, .inr (3, [.ref k1, .ref k2, .int lK])), (k1, .inl (cI, 1024, .inl fK1)), (k2, .inl (cI, 1024, .inl fK2)), (nw, .inr (5, [.ref aw, .int lw]))] := hDn
  have hS := hSn
  clear hPn hDn hSn
  obtain ⟨f_4, ef_4⟩ : ∃ g : Nat → Int32, g = upd fW2 (lw : Int32).toNatClampNeg 0 := ⟨_, rfl⟩
  rw [← ef_4] at hP hD
  refine lv_aload_n hx hb dX1_findTails_29 rfl (lv_at hl 1 rfl) ?_
  refine va_get (D := (dC, dI)) (ci := 1) (v := .ref w3) (C := RX1) (T := TX1) (N := 20) hx hb hts in_X1 hown hK hP 0 rfl rfl 5 (by decide) (hts (.fieldLink RX1 27 "TextMender$Choices" "tailLetters" "[I") (List.mem_of_getElem? (i := 8) rfl)) (fun _ h9 => h9) rfl dX1_findTails_30 ?_
  refine lv_iload_n hx hb dX1_findTails_33 rfl (lv_at hl 0 rfl) ?_
  refine lv_iconst (v := 0) hx hb dX1_findTails_34 (by decide) ?_
  refine va_iast hx hb hK hP hD hS 3 0 rfl rfl (v_in (by omega)) dX1_findTails_35 (fun H locs hPn hDn hSn => ?_)
  clear hP hD hS
  have hP : va_P (dC, dI) vwCl [(oW, .inr (1, [.ref oC, .ref oK, .ref nw, .ref w1, .ref w2, .ref w3, .ref o7, .ref o8, .ref o9, .ref w4, .ref w5, .ref w6, .ref w7, .int ke, .int tl, .int fsh, .int wi, .int ri, .int fm, .int lm])), (w1, .inl (cI, 801, .inl f_3)), (w2, .inl (cI, 801, .inl f_4)), (w3, .inl (cI, 801, .inl (upd fW3 (lw : Int32).toNatClampNeg 0))), (aw, .inl (cI, 800, .inl fw)), (oC, .inr (2, [.ref o4, .ref o5])), (o4, .inr (10, [.ref a41, .ref a42, .ref a43, .int l4])), (a41, .inl (cI, 256, .inl f41)), (o5, .inr (10, [.ref a51, .ref a52, .ref a53, .int l5])), (a51, .inl (cI, 256, .inl f51)), (oK, .inr (3, [.ref k1, .ref k2, .int lK])), (k1, .inl (cI, 1024, .inl fK1)), (k2, .inl (cI, 1024, .inl fK2)), (nw, .inr (5, [.ref aw, .int lw]))] H := hPn
  have hD : va_D A [(oW, .inr (1, [.ref oC, .ref oK, .ref nw, .ref w1, .ref w2, .ref w3, .ref o7, .ref o8, .ref o9, .ref w4, .ref w5, .ref w6, .ref w7, .int ke, .int tl, .int fsh, .int wi, .int ri, .int fm, .int lm])), (w1, .inl (cI, 801, .inl f_3)), (w2, .inl (cI, 801, .inl f_4)), (w3, .inl (cI, 801, .inl (upd fW3 (lw : Int32).toNatClampNeg 0))), (aw, .inl (cI, 800, .inl fw)), (oC, .inr (2, [.ref o4, .ref o5])), (o4, .inr (10, [.ref a41, .ref a42, .ref a43, .int l4])), (a41, .inl (cI, 256, .inl f41)), (o5, .inr (10, [.ref a51, .ref a52, .ref a53, .int l5])), (a51, .inl (cI, 256, .inl f51)), (oK, .inr (3, [.ref k1, .ref k2, .int lK])), (k1, .inl (cI, 1024, .inl fK1)), (k2, .inl (cI, 1024, .inl fK2)), (nw, .inr (5, [.ref aw, .int lw]))] := hDn
  have hS := hSn
  clear hPn hDn hSn
  obtain ⟨f_5, ef_5⟩ : ∃ g : Nat → Int32, g = upd fW3 (lw : Int32).toNatClampNeg 0 := ⟨_, rfl⟩
  rw [← ef_5] at hP hD
  refine lv_iload_n hx hb dX1_findTails_36 rfl (lv_at hl 0 rfl) ?_
  refine lv_iconst (v := 1) hx hb dX1_findTails_37 (by decide) ?_
  refine lv_isub hx hb dX1_findTails_38 ?_
  refine lv_topi (fun x_6 ex_6 => ?_)
  have tx_6 : x_6.toInt = lw.toInt - 1 := v_sub ex_6 (by show -2147483648 ≤ lw.toInt - 1; omega) (by show lw.toInt - 1 < 2147483648; omega)
  refine lv_istore_n (lv' := [(2, .int x_6), (1, .int lw), (0, .ref oW)]) hx hb dX1_findTails_39 rfl hl (by decide) rfl (fun ls hl => ?_)
  have LOOP_40 : ∀ (k_40 : Nat) (p_ : Int32) (fta1 : Nat → Int32) (fta2 : Nat → Int32) (fta3 : Nat → Int32) (H : Heap) (locs : List Loc) (ls : Array Slot), MSd (p_.toInt + 1 : Int) k_40 → (-1 ≤ p_.toInt ∧ p_.toInt ≤ 799) → (lm.toInt ≤ p_.toInt ∧ p_.toInt < lw.toInt) → (∀ p : Nat, p_.toInt < (p : Int) → (p : Int) ≤ lw.toInt → (fta3 p).toInt = -1 ∨ (0 ≤ (fta3 p).toInt ∧ (fta3 p).toInt ≤ lw.toInt - p)) → (∀ p : Nat, p_.toInt < (p : Int) → (p : Int) ≤ lw.toInt → TLK (tcC fK1 fK2) (dl wi f41 f51 fw lw.toInt) (dx wi f41 f51 fw lw.toInt) lw.toNatClampNeg fta1 fta2 fta3 p) → va_P (dC, dI) vwCl [(oW, .inr (1, [.ref oC, .ref oK, .ref nw, .ref w1, .ref w2, .ref w3, .ref o7, .ref o8, .ref o9, .ref w4, .ref w5, .ref w6, .ref w7, .int ke, .int tl, .int fsh, .int wi, .int ri, .int fm, .int lm])), (w1, .inl (cI, 801, .inl fta1)), (w2, .inl (cI, 801, .inl fta2)), (w3, .inl (cI, 801, .inl fta3)), (aw, .inl (cI, 800, .inl fw)), (oC, .inr (2, [.ref o4, .ref o5])), (o4, .inr (10, [.ref a41, .ref a42, .ref a43, .int l4])), (a41, .inl (cI, 256, .inl f41)), (o5, .inr (10, [.ref a51, .ref a52, .ref a53, .int l5])), (a51, .inl (cI, 256, .inl f51)), (oK, .inr (3, [.ref k1, .ref k2, .int lK])), (k1, .inl (cI, 1024, .inl fK1)), (k2, .inl (cI, 1024, .inl fK2)), (nw, .inr (5, [.ref aw, .int lw]))] H → va_D A [(oW, .inr (1, [.ref oC, .ref oK, .ref nw, .ref w1, .ref w2, .ref w3, .ref o7, .ref o8, .ref o9, .ref w4, .ref w5, .ref w6, .ref w7, .int ke, .int tl, .int fsh, .int wi, .int ri, .int fm, .int lm])), (w1, .inl (cI, 801, .inl fta1)), (w2, .inl (cI, 801, .inl fta2)), (w3, .inl (cI, 801, .inl fta3)), (aw, .inl (cI, 800, .inl fw)), (oC, .inr (2, [.ref o4, .ref o5])), (o4, .inr (10, [.ref a41, .ref a42, .ref a43, .int l4])), (a41, .inl (cI, 256, .inl f41)), (o5, .inr (10, [.ref a51, .ref a52, .ref a53, .int l5])), (a51, .inl (cI, 256, .inl f51)), (oK, .inr (3, [.ref k1, .ref k2, .int lK])), (k1, .inl (cI, 1024, .inl fK1)), (k2, .inl (cI, 1024, .inl fK2)), (nw, .inr (5, [.ref aw, .int lw]))] → va_S A s.heap H locs → lv_has ls 5 [(2, .int p_), (1, .int lw), (0, .ref oW)] → W p l e (headSpec wsX1_findTails ({ frames := 3, cells := 0, slots := 0, locals := 74 } : Room)).room s m ([.ref oW] : List Value).toArray below meth c H locs 0 0 (MQ below QQ ([.ref oW] : List Value).toArray s 0 0 A) (F0 m 40 ls []) := by
    clear hP hD hS hl
    intro k_40
    induction k_40 with
    | zero =>
      intro p_ fta1 fta2 fta3 H locs ls hm_40 g_p_ hpl hlb htl hP hD hS hl
      exact ms_0 hm_40
    | succ k_40 ih_40 =>
      intro p_ fta1 fta2 fta3 H locs ls hm_40 g_p_ hpl hlb htl hP hD hS hl
      refine lv_iload_n hx hb dX1_findTails_40 rfl (lv_at hl 0 rfl) ?_
      refine lv_aload_n hx hb dX1_findTails_41 rfl (lv_at hl 2 rfl) ?_
      refine va_get (D := (dC, dI)) (ci := 1) (v := .int lm) (C := RX1) (T := TX1) (N := 20) hx hb hts in_X1 hown hK hP 0 rfl rfl 19 (by decide) (hts (.fieldLink RX1 85 "TextMender$Choices" "lastMark" "I") (List.mem_of_getElem? (i := 9) rfl)) (fun _ h9 => h9) rfl dX1_findTails_42 ?_
      refine lv_icmp_le (tgt := 185) hx hb dX1_findTails_45 (by decide) (fun c_7 => ?_) (fun c_7 => ?_)
      · have tc_7 : p_.toInt ≤ lm.toInt := v_le c_7
        have hP9 := hP.sub (ws' := [(oW, .inr (1, [.ref oC, .ref oK, .ref nw, .ref w1, .ref w2, .ref w3, .ref o7, .ref o8, .ref o9, .ref w4, .ref w5, .ref w6, .ref w7, .int ke, .int tl, .int fsh, .int wi, .int ri, .int fm, .int lm])), (w1, .inl (cI, 801, .inl fta1)), (w2, .inl (cI, 801, .inl fta2)), (w3, .inl (cI, 801, .inl fta3)), (nw, .inr (5, [.ref aw, .int lw])), (aw, .inl (cI, 800, .inl fw)), (oC, .inr (2, [.ref o4, .ref o5])), (o4, .inr (10, [.ref a41, .ref a42, .ref a43, .int l4])), (a41, .inl (cI, 256, .inl f41)), (o5, .inr (10, [.ref a51, .ref a52, .ref a53, .int l5])), (a51, .inl (cI, 256, .inl f51)), (oK, .inr (3, [.ref k1, .ref k2, .int lK])), (k1, .inl (cI, 1024, .inl fK1)), (k2, .inl (cI, 1024, .inl fK2))]) [0, 1, 2, 3, 13, 4, 5, 6, 7, 8, 9, 10, 11, 12] rfl
        have hD9 := hD.sub (ws' := [(oW, .inr (1, [.ref oC, .ref oK, .ref nw, .ref w1, .ref w2, .ref w3, .ref o7, .ref o8, .ref o9, .ref w4, .ref w5, .ref w6, .ref w7, .int ke, .int tl, .int fsh, .int wi, .int ri, .int fm, .int lm])), (w1, .inl (cI, 801, .inl fta1)), (w2, .inl (cI, 801, .inl fta2)), (w3, .inl (cI, 801, .inl fta3)), (nw, .inr (5, [.ref aw, .int lw])), (aw, .inl (cI, 800, .inl fw)), (oC, .inr (2, [.ref o4, .ref o5])), (o4, .inr (10, [.ref a41, .ref a42, .ref a43, .int l4])), (a41, .inl (cI, 256, .inl f41)), (o5, .inr (10, [.ref a51, .ref a52, .ref a53, .int l5])), (a51, .inl (cI, 256, .inl f51)), (oK, .inr (3, [.ref k1, .ref k2, .int lK])), (k1, .inl (cI, 1024, .inl fK1)), (k2, .inl (cI, 1024, .inl fK2))]) [0, 1, 2, 3, 13, 4, 5, 6, 7, 8, 9, 10, 11, 12] (by decide +kernel) rfl
        rw [hQQ]
        exact W.vret hx hb hr (fun t ht hW => ⟨⟨(), rfl, trivial, ⟨fta1, fta2, fta3, by rw [ht]; exact hP9, hD9, fun p p1 p2 => htl p (by omega) p2⟩⟩, hS.F ht⟩) hS.2.2 dX1_findTails_185
      · have tc_7 : lm.toInt < p_.toInt := v_nle c_7
        refine lv_iload_n hx hb dX1_findTails_48 rfl (lv_at hl 0 rfl) ?_
        refine lv_if_lt (tgt := 185) hx hb dX1_findTails_49 (by decide) (fun c_8 => by exfalso; have tc_8 : p_.toInt < 0 := v_lt c_8; omega) (fun c_8 => ?_)
        have tc_8 : 0 ≤ p_.toInt := v_nlt c_8
        have cp9 := v_clamp (x := p_) (by omega)
        refine lv_aload_n hx hb dX1_findTails_52 rfl (lv_at hl 2 rfl) ?_
        refine va_get (D := (dC, dI)) (ci := 1) (v := .ref oC) (C := RX1) (T := TX1) (N := 20) hx hb hts in_X1 hown hK hP 0 rfl rfl 0 (by decide) (hts (.fieldLink RX1 42 "TextMender$Choices" "codes" "LTextMender$Codes;") (List.mem_of_getElem? (i := 10) rfl)) (fun _ h9 => h9) rfl dX1_findTails_53 ?_
        refine lv_aload_n hx hb dX1_findTails_56 rfl (lv_at hl 2 rfl) ?_
        refine va_get (D := (dC, dI)) (ci := 1) (v := .int wi) (C := RX1) (T := TX1) (N := 20) hx hb hts in_X1 hown hK hP 0 rfl rfl 16 (by decide) (hts (.fieldLink RX1 76 "TextMender$Choices" "writtenIn" "I") (List.mem_of_getElem? (i := 11) rfl)) (fun _ h9 => h9) rfl dX1_findTails_57 ?_
        refine lv_aload_n hx hb dX1_findTails_60 rfl (lv_at hl 2 rfl) ?_
        refine va_get (D := (dC, dI)) (ci := 1) (v := .ref nw) (C := RX1) (T := TX1) (N := 20) hx hb hts in_X1 hown hK hP 0 rfl rfl 2 (by decide) (hts (.fieldLink RX1 16 "TextMender$Choices" "bytes" "LTextMender$Numbers;") (List.mem_of_getElem? (i := 1) rfl)) (fun _ h9 => h9) rfl dX1_findTails_61 ?_
        refine lv_iload_n hx hb dX1_findTails_64 rfl (lv_at hl 0 rfl) ?_
        refine lv_iload_n hx hb dX1_findTails_65 rfl (lv_at hl 1 rfl) ?_
        have hPc := hP.sub (ws' := [(oC, .inr (2, [.ref o4, .ref o5])), (o4, .inr (10, [.ref a41, .ref a42, .ref a43, .int l4])), (a41, .inl (cI, 256, .inl f41)), (o5, .inr (10, [.ref a51, .ref a52, .ref a53, .int l5])), (a51, .inl (cI, 256, .inl f51)), (nw, .inr (5, [.ref aw, .int lw])), (aw, .inl (cI, 800, .inl fw))]) [5, 6, 7, 8, 9, 13, 4] rfl
        have hDc := hD.sub (ws' := [(oC, .inr (2, [.ref o4, .ref o5])), (o4, .inr (10, [.ref a41, .ref a42, .ref a43, .int l4])), (a41, .inl (cI, 256, .inl f41)), (o5, .inr (10, [.ref a51, .ref a52, .ref a53, .int l5])), (a51, .inl (cI, 256, .inl f51)), (nw, .inr (5, [.ref aw, .int lw])), (aw, .inl (cI, 800, .inl fw))]) [5, 6, 7, 8, 9, 13, 4] (by decide +kernel) rfl
        have hFc := va_free (wc := [(oC, .inr (2, [.ref o4, .ref o5])), (o4, .inr (10, [.ref a41, .ref a42, .ref a43, .int l4])), (a41, .inl (cI, 256, .inl f41)), (o5, .inr (10, [.ref a51, .ref a52, .ref a53, .int l5])), (a51, .inl (cI, 256, .inl f51)), (nw, .inr (5, [.ref aw, .int lw])), (aw, .inl (cI, 800, .inl fw))]) hD hS hA [5, 6, 7, 8, 9, 13, 4] rfl
        refine va_calli (va_runV (As := [.int wi, .ref nw, .int p_, .int lw]) (rest := []) ⟨hx, hb, hml, hown, hts⟩ (f_X2_decode l dC dI cI cS H.size oC nw o4 o5 a41 a42 a43 a51 a52 a53 aw 800 l4 f41 l5 f51 lw fw wi p_ lw (by omega) (by omega) (by omega) (by omega) (hby) (hL4) (hL5)) (cwV 4 hts gX1_findTails_X2_decode rfl rfl rfl (by decide +kernel) ⟨Nat.le_of_ble_eq_true rfl, Nat.le_of_ble_eq_true rfl⟩) ⟨fun a U g mk q => by obtain ⟨q0, q1, qP, qK, qD, qN0⟩ := q; exact ⟨q0, q1, qP, va_K.moved (u := U) (U := U.calling g mk a) (Vm.Alike.refl U.vm) qK, qD, va_Nw.same rfl rfl qN0⟩, va_recv hK hPc (ci := 2) (q0 := 0) rfl rfl, fun U hU hW => ⟨rfl, by rw [hU], by rw [hU]; exact hPc, va_K.moved hW.alike hK, hDc.weaken (fun _ _ _ _ => trivial), va_Nw.warmM hW hN52⟩⟩ rfl rfl hl.1 rfl (lv_room (Nat.le_of_ble_eq_true rfl)) dX1_findTails_66 ⟨Nat.le_of_ble_eq_true rfl, Nat.le_of_ble_eq_true rfl⟩) hS (fun q _ h => hFc q h) hFc (fun r_9 u t H1 locs ht hvm hw hB hz1 hk1 hSn => ?_)
        subst hw
        obtain ⟨hP1, hD1, hf9_0⟩ := hB
        rw [ht] at hP1
        obtain ⟨hPn, hDn⟩ := va_join (wr := [(oW, .inr (1, [.ref oC, .ref oK, .ref nw, .ref w1, .ref w2, .ref w3, .ref o7, .ref o8, .ref o9, .ref w4, .ref w5, .ref w6, .ref w7, .int ke, .int tl, .int fsh, .int wi, .int ri, .int fm, .int lm])), (w1, .inl (cI, 801, .inl fta1)), (w2, .inl (cI, 801, .inl fta2)), (w3, .inl (cI, 801, .inl fta3)), (oK, .inr (3, [.ref k1, .ref k2, .int lK])), (k1, .inl (cI, 1024, .inl fK1)), (k2, .inl (cI, 1024, .inl fK2))]) (w1 := [(oC, .inr (2, [.ref o4, .ref o5])), (o4, .inr (10, [.ref a41, .ref a42, .ref a43, .int l4])), (a41, .inl (cI, 256, .inl f41)), (o5, .inr (10, [.ref a51, .ref a52, .ref a53, .int l5])), (a51, .inl (cI, 256, .inl f51)), (nw, .inr (5, [.ref aw, .int lw])), (aw, .inl (cI, 800, .inl fw))]) hP hD [5, 6, 7, 8, 9, 13, 4] [0, 1, 2, 3, 10, 11, 12] rfl rfl (by decide +kernel) (by decide +kernel) hk1 hFc hP1 hD1
        clear hP hD hS hPc hDc hFc hk1 hz1 hvm ht hP1 hD1
        generalize H1 = H at hPn hSn ⊢
        have hP : va_P (dC, dI) vwCl [(oW, .inr (1, [.ref oC, .ref oK, .ref nw, .ref w1, .ref w2, .ref w3, .ref o7, .ref o8, .ref o9, .ref w4, .ref w5, .ref w6, .ref w7, .int ke, .int tl, .int fsh, .int wi, .int ri, .int fm, .int lm])), (w1, .inl (cI, 801, .inl fta1)), (w2, .inl (cI, 801, .inl fta2)), (w3, .inl (cI, 801, .inl fta3)), (oK, .inr (3, [.ref k1, .ref k2, .int lK])), (k1, .inl (cI, 1024, .inl fK1)), (k2, .inl (cI, 1024, .inl fK2)), (oC, .inr (2, [.ref o4, .ref o5])), (o4, .inr (10, [.ref a41, .ref a42, .ref a43, .int l4])), (a41, .inl (cI, 256, .inl f41)), (o5, .inr (10, [.ref a51, .ref a52, .ref a53, .int l5])), (a51, .inl (cI, 256, .inl f51)), (nw, .inr (5, [.ref aw, .int lw])), (aw, .inl (cI, 800, .inl fw))] H := hPn
        have hD : va_D A [(oW, .inr (1, [.ref oC, .ref oK, .ref nw, .ref w1, .ref w2, .ref w3, .ref o7, .ref o8, .ref o9, .ref w4, .ref w5, .ref w6, .ref w7, .int ke, .int tl, .int fsh, .int wi, .int ri, .int fm, .int lm])), (w1, .inl (cI, 801, .inl fta1)), (w2, .inl (cI, 801, .inl fta2)), (w3, .inl (cI, 801, .inl fta3)), (oK, .inr (3, [.ref k1, .ref k2, .int lK])), (k1, .inl (cI, 1024, .inl fK1)), (k2, .inl (cI, 1024, .inl fK2)), (oC, .inr (2, [.ref o4, .ref o5])), (o4, .inr (10, [.ref a41, .ref a42, .ref a43, .int l4])), (a41, .inl (cI, 256, .inl f41)), (o5, .inr (10, [.ref a51, .ref a52, .ref a53, .int l5])), (a51, .inl (cI, 256, .inl f51)), (nw, .inr (5, [.ref aw, .int lw])), (aw, .inl (cI, 800, .inl fw))] := hDn
        have hS := hSn
        clear hPn hDn hSn
        refine lv_istore_n (lv' := [(3, .int r_9), (2, .int p_), (1, .int lw), (0, .ref oW)]) hx hb dX1_findTails_69 rfl hl (by decide) rfl (fun ls hl => ?_)
        refine lv_iload_n hx hb dX1_findTails_70 rfl (lv_at hl 0 rfl) ?_
        refine lv_iconst (v := (-1)) hx hb dX1_findTails_71 (by decide) ?_
        refine lv_icmp_ne (tgt := 79) hx hb dX1_findTails_72 (by decide) (fun c_10 => ?_) (fun c_10 => ?_)
        · have tc_10 : ¬ r_9.toInt = (-1) := v_ne c_10
          obtain ⟨l9, x9, hD9, hr9, hx9, hy9⟩ := F_dc_1 hf9_0 c_10
          have hp9 := Dec_pos hD9
          have hd9 := dl_of hD9
          refine lv_iload_n hx hb dX1_findTails_79 rfl (lv_at hl 1 rfl) ?_
          refine lv_iload_n hx hb dX1_findTails_80 rfl (lv_at hl 0 rfl) ?_
          have hPc := hP.sub (ws' := []) [] rfl
          have hDc := hD.sub (ws' := []) [] (by decide +kernel) rfl
          have hFc := va_free (wc := []) hD hS hA [] rfl
          refine va_calli (va_runS (As := [.int r_9]) (rest := [.int p_]) ⟨hx, hb, hml, hown, hts⟩ (f_X2_bytesIn l dC dI cI cS H.size r_9 (by omega)) (va_cwS 1 hts gX1_findTails_X2_bytesIn rfl rfl rfl (by decide +kernel) ⟨Nat.le_of_ble_eq_true rfl, Nat.le_of_ble_eq_true rfl⟩) ⟨fun a U g mk q => by obtain ⟨q0, q1, qP, qK, qD⟩ := q; exact ⟨q0, q1, qP, va_K.moved (u := U) (U := U.calling g mk a) (Vm.Alike.refl U.vm) qK, qD⟩, fun U hU hW => ⟨rfl, by rw [hU], by rw [hU]; exact hPc, va_K.moved hW.alike hK, hDc.weaken (fun _ _ _ _ => trivial)⟩⟩ rfl rfl hl.1 rfl (lv_room (Nat.le_of_ble_eq_true rfl)) dX1_findTails_81 ⟨Nat.le_of_ble_eq_true rfl, Nat.le_of_ble_eq_true rfl⟩) hS (fun q _ h => hFc q h) hFc (fun r_11 u t H1 locs ht hvm hw hB hz1 hk1 hSn => ?_)
          subst hw
          obtain ⟨hP1, hD1, hf11_0, hf11_1⟩ := hB
          rw [ht] at hP1
          obtain ⟨hPn, hDn⟩ := va_join (wr := [(oW, .inr (1, [.ref oC, .ref oK, .ref nw, .ref w1, .ref w2, .ref w3, .ref o7, .ref o8, .ref o9, .ref w4, .ref w5, .ref w6, .ref w7, .int ke, .int tl, .int fsh, .int wi, .int ri, .int fm, .int lm])), (w1, .inl (cI, 801, .inl fta1)), (w2, .inl (cI, 801, .inl fta2)), (w3, .inl (cI, 801, .inl fta3)), (oK, .inr (3, [.ref k1, .ref k2, .int lK])), (k1, .inl (cI, 1024, .inl fK1)), (k2, .inl (cI, 1024, .inl fK2)), (oC, .inr (2, [.ref o4, .ref o5])), (o4, .inr (10, [.ref a41, .ref a42, .ref a43, .int l4])), (a41, .inl (cI, 256, .inl f41)), (o5, .inr (10, [.ref a51, .ref a52, .ref a53, .int l5])), (a51, .inl (cI, 256, .inl f51)), (nw, .inr (5, [.ref aw, .int lw])), (aw, .inl (cI, 800, .inl fw))]) (w1 := []) hP hD [] [0, 1, 2, 3, 4, 5, 6, 7, 8, 9, 10, 11, 12, 13] rfl rfl (by decide +kernel) (by decide +kernel) hk1 hFc hP1 hD1
          clear hP hD hS hPc hDc hFc hk1 hz1 hvm ht hP1 hD1
          generalize H1 = H at hPn hSn ⊢
          have hP : va_P (dC, dI) vwCl [(oW, .inr (1, [.ref oC, .ref oK, .ref nw, .ref w1, .ref w2, .ref w3, .ref o7, .ref o8, .ref o9, .ref w4, .ref w5, .ref w6, .ref w7, .int ke, .int tl, .int fsh, .int wi, .int ri, .int fm, .int lm])), (w1, .inl (cI, 801, .inl fta1)), (w2, .inl (cI, 801, .inl fta2)), (w3, .inl (cI, 801, .inl fta3)), (oK, .inr (3, [.ref k1, .ref k2, .int lK])), (k1, .inl (cI, 1024, .inl fK1)), (k2, .inl (cI, 1024, .inl fK2)), (oC, .inr (2, [.ref o4, .ref o5])), (o4, .inr (10, [.ref a41, .ref a42, .ref a43, .int l4])), (a41, .inl (cI, 256, .inl f41)), (o5, .inr (10, [.ref a51, .ref a52, .ref a53, .int l5])), (a51, .inl (cI, 256, .inl f51)), (nw, .inr (5, [.ref aw, .int lw])), (aw, .inl (cI, 800, .inl fw))] H := hPn
          have hD : va_D A [(oW, .inr (1, [.ref oC, .ref oK, .ref nw, .ref w1, .ref w2, .ref w3, .ref o7, .ref o8, .ref o9, .ref w4, .ref w5, .ref w6, .ref w7, .int ke, .int tl, .int fsh, .int wi, .int ri, .int fm, .int lm])), (w1, .inl (cI, 801, .inl fta1)), (w2, .inl (cI, 801, .inl fta2)), (w3, .inl (cI, 801, .inl fta3)), (oK, .inr (3, [.ref k1, .ref k2, .int lK])), (k1, .inl (cI, 1024, .inl fK1)), (k2, .inl (cI, 1024, .inl fK2)), (oC, .inr (2, [.ref o4, .ref o5])), (o4, .inr (10, [.ref a41, .ref a42, .ref a43, .int l4])), (a41, .inl (cI, 256, .inl f41)), (o5, .inr (10, [.ref a51, .ref a52, .ref a53, .int l5])), (a51, .inl (cI, 256, .inl f51)), (nw, .inr (5, [.ref aw, .int lw])), (aw, .inl (cI, 800, .inl fw))] := hDn
          have hS := hSn
          clear hPn hDn hSn
          refine lv_iadd hx hb dX1_findTails_84 ?_
          refine lv_topi (fun x_12 ex_12 => ?_)
          have tx_12 : x_12.toInt = p_.toInt + r_11.toInt := v_add ex_12 (by show -2147483648 ≤ p_.toInt + r_11.toInt; omega) (by show p_.toInt + r_11.toInt < 2147483648; omega)
          refine lv_istore (lv' := [(4, .int x_12), (3, .int r_9), (2, .int p_), (1, .int lw), (0, .ref oW)]) hx hb dX1_findTails_85 hl (by decide) rfl (fun ls hl => ?_)
          refine lv_iload hx hb dX1_findTails_87 (lv_at hl 0 rfl) ?_
          refine lv_iload_n hx hb dX1_findTails_89 rfl (lv_at hl 2 rfl) ?_
          refine lv_icmp_le (tgt := 110) hx hb dX1_findTails_90 (by decide) (fun c_13 => by exfalso; have tc_13 : x_12.toInt ≤ p_.toInt := v_le c_13; omega) (fun c_13 => ?_)
          have tc_13 : p_.toInt < x_12.toInt := v_nle c_13
          refine lv_iload hx hb dX1_findTails_93 (lv_at hl 0 rfl) ?_
          refine lv_iload_n hx hb dX1_findTails_95 rfl (lv_at hl 3 rfl) ?_
          refine lv_icmp_gt (tgt := 110) hx hb dX1_findTails_96 (by decide) (fun c_14 => by exfalso; have tc_14 : lw.toInt < x_12.toInt := v_lt c_14; omega) (fun c_14 => ?_)
          have tc_14 : x_12.toInt ≤ lw.toInt := v_nlt c_14
          have cn9 := v_clamp (x := x_12) (by omega)
          refine lv_aload_n hx hb dX1_findTails_99 rfl (lv_at hl 4 rfl) ?_
          refine va_get (D := (dC, dI)) (ci := 1) (v := .ref w3) (C := RX1) (T := TX1) (N := 20) hx hb hts in_X1 hown hK hP 0 rfl rfl 5 (by decide) (hts (.fieldLink RX1 27 "TextMender$Choices" "tailLetters" "[I") (List.mem_of_getElem? (i := 8) rfl)) (fun _ h9 => h9) rfl dX1_findTails_100 ?_
          refine lv_iload hx hb dX1_findTails_103 (lv_at hl 0 rfl) ?_
          refine va_iald hx hb hK hP 3 0 rfl rfl (v_in (by omega)) dX1_findTails_105 ?_
          refine lv_topi (fun x_15 ex_15 => ?_)
          have ho_x_15 : x_15.toInt = -1 ∨ (0 ≤ x_15.toInt ∧ x_15.toInt ≤ lw.toInt - x_12.toInt) := by have q9 := hlb x_12.toNatClampNeg (by omega) (by omega); rw [ex_15]; omega
          refine lv_iconst (v := (-1)) hx hb dX1_findTails_106 (by decide) ?_
          refine lv_icmp_ne (tgt := 120) hx hb dX1_findTails_107 (by decide) (fun c_16 => ?_) (fun c_16 => ?_)
          · have tc_16 : ¬ x_15.toInt = (-1) := v_ne c_16
            refine lv_aload_n hx hb dX1_findTails_120 rfl (lv_at hl 4 rfl) ?_
            refine va_get (D := (dC, dI)) (ci := 1) (v := .ref w1) (C := RX1) (T := TX1) (N := 20) hx hb hts in_X1 hown hK hP 0 rfl rfl 3 (by decide) (hts (.fieldLink RX1 20 "TextMender$Choices" "tailFirst" "[I") (List.mem_of_getElem? (i := 6) rfl)) (fun _ h9 => h9) rfl dX1_findTails_121 ?_
            refine lv_iload_n hx hb dX1_findTails_124 rfl (lv_at hl 2 rfl) ?_
            refine lv_iload_n hx hb dX1_findTails_125 rfl (lv_at hl 1 rfl) ?_
            have hPc := hP.sub (ws' := []) [] rfl
            have hDc := hD.sub (ws' := []) [] (by decide +kernel) rfl
            have hFc := va_free (wc := []) hD hS hA [] rfl
            refine va_calli (va_runS (As := [.int r_9]) (rest := [.int p_, .ref w1]) ⟨hx, hb, hml, hown, hts⟩ (f_X2_letterIn l dC dI cI cS H.size r_9 ) (va_cwS 1 hts gX1_findTails_X2_letterIn rfl rfl rfl (by decide +kernel) ⟨Nat.le_of_ble_eq_true rfl, Nat.le_of_ble_eq_true rfl⟩) ⟨fun a U g mk q => by obtain ⟨q0, q1, qP, qK, qD⟩ := q; exact ⟨q0, q1, qP, va_K.moved (u := U) (U := U.calling g mk a) (Vm.Alike.refl U.vm) qK, qD⟩, fun U hU hW => ⟨rfl, by rw [hU], by rw [hU]; exact hPc, va_K.moved hW.alike hK, hDc.weaken (fun _ _ _ _ => trivial)⟩⟩ rfl rfl hl.1 rfl (lv_room (Nat.le_of_ble_eq_true rfl)) dX1_findTails_126 ⟨Nat.le_of_ble_eq_true rfl, Nat.le_of_ble_eq_true rfl⟩) hS (fun q _ h => hFc q h) hFc (fun r_17 u t H1 locs ht hvm hw hB hz1 hk1 hSn => ?_)
            subst hw
            obtain ⟨hP1, hD1, hf17_0⟩ := hB
            rw [ht] at hP1
            obtain ⟨hPn, hDn⟩ := va_join (wr := [(oW, .inr (1, [.ref oC, .ref oK, .ref nw, .ref w1, .ref w2, .ref w3, .ref o7, .ref o8, .ref o9, .ref w4, .ref w5, .ref w6, .ref w7, .int ke, .int tl, .int fsh, .int wi, .int ri, .int fm, .int lm])), (w1, .inl (cI, 801, .inl fta1)), (w2, .inl (cI, 801, .inl fta2)), (w3, .inl (cI, 801, .inl fta3)), (oK, .inr (3, [.ref k1, .ref k2, .int lK])), (k1, .inl (cI, 1024, .inl fK1)), (k2, .inl (cI, 1024, .inl fK2)), (oC, .inr (2, [.ref o4, .ref o5])), (o4, .inr (10, [.ref a41, .ref a42, .ref a43, .int l4])), (a41, .inl (cI, 256, .inl f41)), (o5, .inr (10, [.ref a51, .ref a52, .ref a53, .int l5])), (a51, .inl (cI, 256, .inl f51)), (nw, .inr (5, [.ref aw, .int lw])), (aw, .inl (cI, 800, .inl fw))]) (w1 := []) hP hD [] [0, 1, 2, 3, 4, 5, 6, 7, 8, 9, 10, 11, 12, 13] rfl rfl (by decide +kernel) (by decide +kernel) hk1 hFc hP1 hD1
            clear hP hD hS hPc hDc hFc hk1 hz1 hvm ht hP1 hD1
            generalize H1 = H at hPn hSn ⊢
            have hP : va_P (dC, dI) vwCl [(oW, .inr (1, [.ref oC, .ref oK, .ref nw, .ref w1, .ref w2, .ref w3, .ref o7, .ref o8, .ref o9, .ref w4, .ref w5, .ref w6, .ref w7, .int ke, .int tl, .int fsh, .int wi, .int ri, .int fm, .int lm])), (w1, .inl (cI, 801, .inl fta1)), (w2, .inl (cI, 801, .inl fta2)), (w3, .inl (cI, 801, .inl fta3)), (oK, .inr (3, [.ref k1, .ref k2, .int lK])), (k1, .inl (cI, 1024, .inl fK1)), (k2, .inl (cI, 1024, .inl fK2)), (oC, .inr (2, [.ref o4, .ref o5])), (o4, .inr (10, [.ref a41, .ref a42, .ref a43, .int l4])), (a41, .inl (cI, 256, .inl f41)), (o5, .inr (10, [.ref a51, .ref a52, .ref a53, .int l5])), (a51, .inl (cI, 256, .inl f51)), (nw, .inr (5, [.ref aw, .int lw])), (aw, .inl (cI, 800, .inl fw))] H := hPn
            have hD : va_D A [(oW, .inr (1, [.ref oC, .ref oK, .ref nw, .ref w1, .ref w2, .ref w3, .ref o7, .ref o8, .ref o9, .ref w4, .ref w5, .ref w6, .ref w7, .int ke, .int tl, .int fsh, .int wi, .int ri, .int fm, .int lm])), (w1, .inl (cI, 801, .inl fta1)), (w2, .inl (cI, 801, .inl fta2)), (w3, .inl (cI, 801, .inl fta3)), (oK, .inr (3, [.ref k1, .ref k2, .int lK])), (k1, .inl (cI, 1024, .inl fK1)), (k2, .inl (cI, 1024, .inl fK2)), (oC, .inr (2, [.ref o4, .ref o5])), (o4, .inr (10, [.ref a41, .ref a42, .ref a43, .int l4])), (a41, .inl (cI, 256, .inl f41)), (o5, .inr (10, [.ref a51, .ref a52, .ref a53, .int l5])), (a51, .inl (cI, 256, .inl f51)), (nw, .inr (5, [.ref aw, .int lw])), (aw, .inl (cI, 800, .inl fw))] := hDn
            have hS := hSn
            clear hPn hDn hSn
            refine va_iast hx hb hK hP hD hS 1 0 rfl rfl (v_in (by omega)) dX1_findTails_129 (fun H locs hPn hDn hSn => ?_)
            clear hP hD hS
            have hP : va_P (dC, dI) vwCl [(oW, .inr (1, [.ref oC, .ref oK, .ref nw, .ref w1, .ref w2, .ref w3, .ref o7, .ref o8, .ref o9, .ref w4, .ref w5, .ref w6, .ref w7, .int ke, .int tl, .int fsh, .int wi, .int ri, .int fm, .int lm])), (w1, .inl (cI, 801, .inl (upd fta1 (p_ : Int32).toNatClampNeg r_17))), (w2, .inl (cI, 801, .inl fta2)), (w3, .inl (cI, 801, .inl fta3)), (oK, .inr (3, [.ref k1, .ref k2, .int lK])), (k1, .inl (cI, 1024, .inl fK1)), (k2, .inl (cI, 1024, .inl fK2)), (oC, .inr (2, [.ref o4, .ref o5])), (o4, .inr (10, [.ref a41, .ref a42, .ref a43, .int l4])), (a41, .inl (cI, 256, .inl f41)), (o5, .inr (10, [.ref a51, .ref a52, .ref a53, .int l5])), (a51, .inl (cI, 256, .inl f51)), (nw, .inr (5, [.ref aw, .int lw])), (aw, .inl (cI, 800, .inl fw))] H := hPn
            have hD : va_D A [(oW, .inr (1, [.ref oC, .ref oK, .ref nw, .ref w1, .ref w2, .ref w3, .ref o7, .ref o8, .ref o9, .ref w4, .ref w5, .ref w6, .ref w7, .int ke, .int tl, .int fsh, .int wi, .int ri, .int fm, .int lm])), (w1, .inl (cI, 801, .inl (upd fta1 (p_ : Int32).toNatClampNeg r_17))), (w2, .inl (cI, 801, .inl fta2)), (w3, .inl (cI, 801, .inl fta3)), (oK, .inr (3, [.ref k1, .ref k2, .int lK])), (k1, .inl (cI, 1024, .inl fK1)), (k2, .inl (cI, 1024, .inl fK2)), (oC, .inr (2, [.ref o4, .ref o5])), (o4, .inr (10, [.ref a41, .ref a42, .ref a43, .int l4])), (a41, .inl (cI, 256, .inl f41)), (o5, .inr (10, [.ref a51, .ref a52, .ref a53, .int l5])), (a51, .inl (cI, 256, .inl f51)), (nw, .inr (5, [.ref aw, .int lw])), (aw, .inl (cI, 800, .inl fw))] := hDn
            have hS := hSn
            clear hPn hDn hSn
            obtain ⟨f_18, ef_18⟩ : ∃ g : Nat → Int32, g = upd fta1 (p_ : Int32).toNatClampNeg r_17 := ⟨_, rfl⟩
            rw [← ef_18] at hP hD
            refine lv_aload_n hx hb dX1_findTails_130 rfl (lv_at hl 4 rfl) ?_
            refine va_get (D := (dC, dI)) (ci := 1) (v := .ref w2) (C := RX1) (T := TX1) (N := 20) hx hb hts in_X1 hown hK hP 0 rfl rfl 4 (by decide) (hts (.fieldLink RX1 24 "TextMender$Choices" "tailSum" "[I") (List.mem_of_getElem? (i := 7) rfl)) (fun _ h9 => h9) rfl dX1_findTails_131 ?_
            refine lv_iload_n hx hb dX1_findTails_134 rfl (lv_at hl 2 rfl) ?_
            refine lv_aload_n hx hb dX1_findTails_135 rfl (lv_at hl 4 rfl) ?_
            refine va_get (D := (dC, dI)) (ci := 1) (v := .ref w2) (C := RX1) (T := TX1) (N := 20) hx hb hts in_X1 hown hK hP 0 rfl rfl 4 (by decide) (hts (.fieldLink RX1 24 "TextMender$Choices" "tailSum" "[I") (List.mem_of_getElem? (i := 7) rfl)) (fun _ h9 => h9) rfl dX1_findTails_136 ?_
            refine lv_iload hx hb dX1_findTails_139 (lv_at hl 0 rfl) ?_
            refine va_iald hx hb hK hP 2 0 rfl rfl (v_in (by omega)) dX1_findTails_141 ?_
            refine lv_topi (fun x_19 ex_19 => ?_)
            have ho_x_19 : 0 ≤ x_19.toInt ∧ x_19.toInt ≤ 160000 := by have q9 := tl_b (htl x_12.toNatClampNeg (by omega) (by omega)) (fun e9 => c_16 (ex_15.trans e9)); rw [ex_19]; omega
            refine lv_aload_n hx hb dX1_findTails_142 rfl (lv_at hl 4 rfl) ?_
            refine va_get (D := (dC, dI)) (ci := 1) (v := .ref oK) (C := RX1) (T := TX1) (N := 20) hx hb hts in_X1 hown hK hP 0 rfl rfl 1 (by decide) (hts (.fieldLink RX1 46 "TextMender$Choices" "costs" "LTextMender$Costs;") (List.mem_of_getElem? (i := 12) rfl)) (fun _ h9 => h9) rfl dX1_findTails_143 ?_
            refine lv_aload_n hx hb dX1_findTails_146 rfl (lv_at hl 4 rfl) ?_
            refine va_get (D := (dC, dI)) (ci := 1) (v := .ref w1) (C := RX1) (T := TX1) (N := 20) hx hb hts in_X1 hown hK hP 0 rfl rfl 3 (by decide) (hts (.fieldLink RX1 20 "TextMender$Choices" "tailFirst" "[I") (List.mem_of_getElem? (i := 6) rfl)) (fun _ h9 => h9) rfl dX1_findTails_147 ?_
            refine lv_iload_n hx hb dX1_findTails_150 rfl (lv_at hl 2 rfl) ?_
            refine va_iald hx hb hK hP 1 0 rfl rfl (v_in (by omega)) dX1_findTails_151 ?_
            refine lv_topi (fun x_20 ex_20 => ?_)
            have hx0 : x_20 = r_17 := by rw [ex_20, ef_18, pk_us]
            have hx1 : 0 ≤ x_20.toInt ∧ x_20.toInt ≤ 65535 := by rw [hx0]; omega
            refine lv_aload_n hx hb dX1_findTails_152 rfl (lv_at hl 4 rfl) ?_
            refine va_get (D := (dC, dI)) (ci := 1) (v := .ref w1) (C := RX1) (T := TX1) (N := 20) hx hb hts in_X1 hown hK hP 0 rfl rfl 3 (by decide) (hts (.fieldLink RX1 20 "TextMender$Choices" "tailFirst" "[I") (List.mem_of_getElem? (i := 6) rfl)) (fun _ h9 => h9) rfl dX1_findTails_153 ?_
            refine lv_iload hx hb dX1_findTails_156 (lv_at hl 0 rfl) ?_
            refine va_iald hx hb hK hP 1 0 rfl rfl (v_in (by omega)) dX1_findTails_158 ?_
            refine lv_topi (fun x_21 ex_21 => ?_)
            have hfn9 : x_21 = fta1 x_12.toNatClampNeg := by rw [ex_21, ef_18, pk_un (by omega)]
            have hf8 : 0 ≤ x_21.toInt ∧ x_21.toInt ≤ 65535 := by have q9 := tl_b (htl x_12.toNatClampNeg (by omega) (by omega)) (fun e9 => c_16 (ex_15.trans e9)); rw [hfn9]; omega
            have hPc := hP.sub (ws' := [(oK, .inr (3, [.ref k1, .ref k2, .int lK])), (k1, .inl (cI, 1024, .inl fK1)), (k2, .inl (cI, 1024, .inl fK2))]) [4, 5, 6] rfl
            have hDc := hD.sub (ws' := [(oK, .inr (3, [.ref k1, .ref k2, .int lK])), (k1, .inl (cI, 1024, .inl fK1)), (k2, .inl (cI, 1024, .inl fK2))]) [4, 5, 6] (by decide +kernel) rfl
            have hFc := va_free (wc := [(oK, .inr (3, [.ref k1, .ref k2, .int lK])), (k1, .inl (cI, 1024, .inl fK1)), (k2, .inl (cI, 1024, .inl fK2))]) hD hS hA [4, 5, 6] rfl
            refine va_calli (va_runV (As := [.int x_20, .int x_21]) (rest := [.int x_19, .int p_, .ref w2]) ⟨hx, hb, hml, hown, hts⟩ (f_X3_of l dC dI cI cS H.size oK k1 k2 lK fK1 fK2 x_20 x_21 (g_lK) (by omega) (by omega) (hT) (ho) (hV)) (cwV 2 hts gX1_findTails_X3_of rfl rfl rfl (by decide +kernel) ⟨Nat.le_of_ble_eq_true rfl, Nat.le_of_ble_eq_true rfl⟩) ⟨fun a U g mk q => by obtain ⟨q0, q1, qP, qK, qD⟩ := q; exact ⟨q0, q1, qP, va_K.moved (u := U) (U := U.calling g mk a) (Vm.Alike.refl U.vm) qK, qD⟩, va_recv hK hPc (ci := 3) (q0 := 0) rfl rfl, fun U hU hW => ⟨rfl, by rw [hU], by rw [hU]; exact hPc, va_K.moved hW.alike hK, hDc.weaken (fun _ _ _ _ => trivial)⟩⟩ rfl rfl hl.1 rfl (lv_room (Nat.le_of_ble_eq_true rfl)) dX1_findTails_159 ⟨Nat.le_of_ble_eq_true rfl, Nat.le_of_ble_eq_true rfl⟩) hS (fun q _ h => hFc q h) hFc (fun r_22 u t H1 locs ht hvm hw hB hz1 hk1 hSn => ?_)
            subst hw
            obtain ⟨hP1, hD1, hf22_0, hf22_1⟩ := hB
            rw [ht] at hP1
            obtain ⟨hPn, hDn⟩ := va_join (wr := [(oW, .inr (1, [.ref oC, .ref oK, .ref nw, .ref w1, .ref w2, .ref w3, .ref o7, .ref o8, .ref o9, .ref w4, .ref w5, .ref w6, .ref w7, .int ke, .int tl, .int fsh, .int wi, .int ri, .int fm, .int lm])), (w1, .inl (cI, 801, .inl f_18)), (w2, .inl (cI, 801, .inl fta2)), (w3, .inl (cI, 801, .inl fta3)), (oC, .inr (2, [.ref o4, .ref o5])), (o4, .inr (10, [.ref a41, .ref a42, .ref a43, .int l4])), (a41, .inl (cI, 256, .inl f41)), (o5, .inr (10, [.ref a51, .ref a52, .ref a53, .int l5])), (a51, .inl (cI, 256, .inl f51)), (nw, .inr (5, [.ref aw, .int lw])), (aw, .inl (cI, 800, .inl fw))]) (w1 := [(oK, .inr (3, [.ref k1, .ref k2, .int lK])), (k1, .inl (cI, 1024, .inl fK1)), (k2, .inl (cI, 1024, .inl fK2))]) hP hD [4, 5, 6] [0, 1, 2, 3, 7, 8, 9, 10, 11, 12, 13] rfl rfl (by decide +kernel) (by decide +kernel) hk1 hFc hP1 hD1
            clear hP hD hS hPc hDc hFc hk1 hz1 hvm ht hP1 hD1
            generalize H1 = H at hPn hSn ⊢
            have hP : va_P (dC, dI) vwCl [(oW, .inr (1, [.ref oC, .ref oK, .ref nw, .ref w1, .ref w2, .ref w3, .ref o7, .ref o8, .ref o9, .ref w4, .ref w5, .ref w6, .ref w7, .int ke, .int tl, .int fsh, .int wi, .int ri, .int fm, .int lm])), (w1, .inl (cI, 801, .inl f_18)), (w2, .inl (cI, 801, .inl fta2)), (w3, .inl (cI, 801, .inl fta3)), (oC, .inr (2, [.ref o4, .ref o5])), (o4, .inr (10, [.ref a41, .ref a42, .ref a43, .int l4])), (a41, .inl (cI, 256, .inl f41)), (o5, .inr (10, [.ref a51, .ref a52, .ref a53, .int l5])), (a51, .inl (cI, 256, .inl f51)), (nw, .inr (5, [.ref aw, .int lw])), (aw, .inl (cI, 800, .inl fw)), (oK, .inr (3, [.ref k1, .ref k2, .int lK])), (k1, .inl (cI, 1024, .inl fK1)), (k2, .inl (cI, 1024, .inl fK2))] H := hPn
            have hD : va_D A [(oW, .inr (1, [.ref oC, .ref oK, .ref nw, .ref w1, .ref w2, .ref w3, .ref o7, .ref o8, .ref o9, .ref w4, .ref w5, .ref w6, .ref w7, .int ke, .int tl, .int fsh, .int wi, .int ri, .int fm, .int lm])), (w1, .inl (cI, 801, .inl f_18)), (w2, .inl (cI, 801, .inl fta2)), (w3, .inl (cI, 801, .inl fta3)), (oC, .inr (2, [.ref o4, .ref o5])), (o4, .inr (10, [.ref a41, .ref a42, .ref a43, .int l4])), (a41, .inl (cI, 256, .inl f41)), (o5, .inr (10, [.ref a51, .ref a52, .ref a53, .int l5])), (a51, .inl (cI, 256, .inl f51)), (nw, .inr (5, [.ref aw, .int lw])), (aw, .inl (cI, 800, .inl fw)), (oK, .inr (3, [.ref k1, .ref k2, .int lK])), (k1, .inl (cI, 1024, .inl fK1)), (k2, .inl (cI, 1024, .inl fK2))] := hDn
            have hS := hSn
            clear hPn hDn hSn
            refine lv_iadd hx hb dX1_findTails_162 ?_
            refine lv_topi (fun x_23 ex_23 => ?_)
            have tx_23 : x_23.toInt = x_19.toInt + r_22.toInt := v_add ex_23 (by show -2147483648 ≤ x_19.toInt + r_22.toInt; omega) (by show x_19.toInt + r_22.toInt < 2147483648; omega)
            refine va_iast hx hb hK hP hD hS 2 0 rfl rfl (v_in (by omega)) dX1_findTails_163 (fun H locs hPn hDn hSn => ?_)
            clear hP hD hS
            have hP : va_P (dC, dI) vwCl [(oW, .inr (1, [.ref oC, .ref oK, .ref nw, .ref w1, .ref w2, .ref w3, .ref o7, .ref o8, .ref o9, .ref w4, .ref w5, .ref w6, .ref w7, .int ke, .int tl, .int fsh, .int wi, .int ri, .int fm, .int lm])), (w1, .inl (cI, 801, .inl f_18)), (w2, .inl (cI, 801, .inl (upd fta2 (p_ : Int32).toNatClampNeg x_23))), (w3, .inl (cI, 801, .inl fta3)), (oC, .inr (2, [.ref o4, .ref o5])), (o4, .inr (10, [.ref a41, .ref a42, .ref a43, .int l4])), (a41, .inl (cI, 256, .inl f41)), (o5, .inr (10, [.ref a51, .ref a52, .ref a53, .int l5])), (a51, .inl (cI, 256, .inl f51)), (nw, .inr (5, [.ref aw, .int lw])), (aw, .inl (cI, 800, .inl fw)), (oK, .inr (3, [.ref k1, .ref k2, .int lK])), (k1, .inl (cI, 1024, .inl fK1)), (k2, .inl (cI, 1024, .inl fK2))] H := hPn
            have hD : va_D A [(oW, .inr (1, [.ref oC, .ref oK, .ref nw, .ref w1, .ref w2, .ref w3, .ref o7, .ref o8, .ref o9, .ref w4, .ref w5, .ref w6, .ref w7, .int ke, .int tl, .int fsh, .int wi, .int ri, .int fm, .int lm])), (w1, .inl (cI, 801, .inl f_18)), (w2, .inl (cI, 801, .inl (upd fta2 (p_ : Int32).toNatClampNeg x_23))), (w3, .inl (cI, 801, .inl fta3)), (oC, .inr (2, [.ref o4, .ref o5])), (o4, .inr (10, [.ref a41, .ref a42, .ref a43, .int l4])), (a41, .inl (cI, 256, .inl f41)), (o5, .inr (10, [.ref a51, .ref a52, .ref a53, .int l5])), (a51, .inl (cI, 256, .inl f51)), (nw, .inr (5, [.ref aw, .int lw])), (aw, .inl (cI, 800, .inl fw)), (oK, .inr (3, [.ref k1, .ref k2, .int lK])), (k1, .inl (cI, 1024, .inl fK1)), (k2, .inl (cI, 1024, .inl fK2))] := hDn
            have hS := hSn
            clear hPn hDn hSn
            obtain ⟨f_24, ef_24⟩ : ∃ g : Nat → Int32, g = upd fta2 (p_ : Int32).toNatClampNeg x_23 := ⟨_, rfl⟩
            rw [← ef_24] at hP hD
            refine lv_aload_n hx hb dX1_findTails_164 rfl (lv_at hl 4 rfl) ?_
            refine va_get (D := (dC, dI)) (ci := 1) (v := .ref w3) (C := RX1) (T := TX1) (N := 20) hx hb hts in_X1 hown hK hP 0 rfl rfl 5 (by decide) (hts (.fieldLink RX1 27 "TextMender$Choices" "tailLetters" "[I") (List.mem_of_getElem? (i := 8) rfl)) (fun _ h9 => h9) rfl dX1_findTails_165 ?_
            refine lv_iload_n hx hb dX1_findTails_168 rfl (lv_at hl 2 rfl) ?_
            refine lv_aload_n hx hb dX1_findTails_169 rfl (lv_at hl 4 rfl) ?_
            refine va_get (D := (dC, dI)) (ci := 1) (v := .ref w3) (C := RX1) (T := TX1) (N := 20) hx hb hts in_X1 hown hK hP 0 rfl rfl 5 (by decide) (hts (.fieldLink RX1 27 "TextMender$Choices" "tailLetters" "[I") (List.mem_of_getElem? (i := 8) rfl)) (fun _ h9 => h9) rfl dX1_findTails_170 ?_
            refine lv_iload hx hb dX1_findTails_173 (lv_at hl 0 rfl) ?_
            refine va_iald hx hb hK hP 3 0 rfl rfl (v_in (by omega)) dX1_findTails_175 ?_
            refine k_i (y := x_15) ex_15.symm ?_
            refine lv_iconst (v := 1) hx hb dX1_findTails_176 (by decide) ?_
            refine lv_iadd hx hb dX1_findTails_177 ?_
            refine lv_topi (fun x_25 ex_25 => ?_)
            have tx_25 : x_25.toInt = x_15.toInt + 1 := v_add ex_25 (by show -2147483648 ≤ x_15.toInt + 1; omega) (by show x_15.toInt + 1 < 2147483648; omega)
            refine va_iast hx hb hK hP hD hS 3 0 rfl rfl (v_in (by omega)) dX1_findTails_178 (fun H locs hPn hDn hSn => ?_)
            clear hP hD hS
            have hP : va_P (dC, dI) vwCl [(oW, .inr (1, [.ref oC, .ref oK, .ref nw, .ref w1, .ref w2, .ref w3, .ref o7, .ref o8, .ref o9, .ref w4, .ref w5, .ref w6, .ref w7, .int ke, .int tl, .int fsh, .int wi, .int ri, .int fm, .int lm])), (w1, .inl (cI, 801, .inl f_18)), (w2, .inl (cI, 801, .inl f_24)), (w3, .inl (cI, 801, .inl (upd fta3 (p_ : Int32).toNatClampNeg x_25))), (oC, .inr (2, [.ref o4, .ref o5])), (o4, .inr (10, [.ref a41, .ref a42, .ref a43, .int l4])), (a41, .inl (cI, 256, .inl f41)), (o5, .inr (10, [.ref a51, .ref a52, .ref a53, .int l5])), (a51, .inl (cI, 256, .inl f51)), (nw, .inr (5, [.ref aw, .int lw])), (aw, .inl (cI, 800, .inl fw)), (oK, .inr (3, [.ref k1, .ref k2, .int lK])), (k1, .inl (cI, 1024, .inl fK1)), (k2, .inl (cI, 1024, .inl fK2))] H := hPn
            have hD : va_D A [(oW, .inr (1, [.ref oC, .ref oK, .ref nw, .ref w1, .ref w2, .ref w3, .ref o7, .ref o8, .ref o9, .ref w4, .ref w5, .ref w6, .ref w7, .int ke, .int tl, .int fsh, .int wi, .int ri, .int fm, .int lm])), (w1, .inl (cI, 801, .inl f_18)), (w2, .inl (cI, 801, .inl f_24)), (w3, .inl (cI, 801, .inl (upd fta3 (p_ : Int32).toNatClampNeg x_25))), (oC, .inr (2, [.ref o4, .ref o5])), (o4, .inr (10, [.ref a41, .ref a42, .ref a43, .int l4])), (a41, .inl (cI, 256, .inl f41)), (o5, .inr (10, [.ref a51, .ref a52, .ref a53, .int l5])), (a51, .inl (cI, 256, .inl f51)), (nw, .inr (5, [.ref aw, .int lw])), (aw, .inl (cI, 800, .inl fw)), (oK, .inr (3, [.ref k1, .ref k2, .int lK])), (k1, .inl (cI, 1024, .inl fK1)), (k2, .inl (cI, 1024, .inl fK2))] := hDn
            have hS := hSn
            clear hPn hDn hSn
            obtain ⟨f_26, ef_26⟩ : ∃ g : Nat → Int32, g = upd fta3 (p_ : Int32).toNatClampNeg x_25 := ⟨_, rfl⟩
            rw [← ef_26] at hP hD
            obtain ⟨x_27, ex_27⟩ : ∃ y : Int32, y = p_ + (-1) := ⟨_, rfl⟩
            have tx_27 : x_27.toInt = p_.toInt + (-1) := v_add ex_27 (by show -2147483648 ≤ p_.toInt + (-1); omega) (by show p_.toInt + (-1) < 2147483648; omega)
            refine lv_iinc (v := x_27) (lv' := [(2, .int x_27), (4, .int x_12), (3, .int r_9), (1, .int lw), (0, .ref oW)]) hx hb dX1_findTails_179 hl (k := 2) rfl (by rw [ex_27]; rfl) (by decide) rfl (fun ls hl => ?_)
            refine lv_goto (tgt := 40) hx hb dX1_findTails_182 (by decide) ?_
            exact ih_40 x_27 f_18 f_24 f_26 _ _ _ (ms_lt hm_40 (by show ((x_27.toInt + 1 : Int)) < p_.toInt + 1; omega) (by show (0 : Int) < p_.toInt + 1; omega)) (by show -1 ≤ x_27.toInt ∧ x_27.toInt ≤ 799; omega) (by show lm.toInt ≤ x_27.toInt ∧ x_27.toInt < lw.toInt; omega) (tl_lb hlb ef_26 (by omega) (by omega) (by first | exact Or.inl rfl | exact Or.inr (by omega))) (fun p p1 p2 => (Nat.lt_or_ge p_.toNatClampNeg p).elim (fun w9 => tl_k (htl p (by omega) p2) (by omega) (Or.inl ef_18) (Or.inl ef_24) ef_26) (fun w9 => (show p = p_.toNatClampNeg by omega) ▸ (tl_y (x := r_17) (htl x_12.toNatClampNeg (by omega) (by omega)) (by rw [hd9.1]; omega) (by rw [hd9.1]; omega) (fun e9 => c_16 (ex_15.trans e9)) (by rw [hd9.2]; exact v_inj (by omega)) ef_18 ef_24 ef_26 ex_19 hfn9 ex_15 (by rw [← hx0]; exact hf22_1) (by omega) (by omega) (by omega) (by omega) (by omega)))) (hP.sub [0, 1, 2, 3, 10, 4, 5, 6, 7, 8, 11, 12, 13, 9] rfl) (hD.sub [0, 1, 2, 3, 10, 4, 5, 6, 7, 8, 11, 12, 13, 9] (by decide +kernel) rfl) hS (lv_sub hl [0, 3, 4] rfl)
          · have tc_16 : x_15.toInt = (-1) := v_eq c_16
            refine lv_aload_n hx hb dX1_findTails_110 rfl (lv_at hl 4 rfl) ?_
            refine va_get (D := (dC, dI)) (ci := 1) (v := .ref w3) (C := RX1) (T := TX1) (N := 20) hx hb hts in_X1 hown hK hP 0 rfl rfl 5 (by decide) (hts (.fieldLink RX1 27 "TextMender$Choices" "tailLetters" "[I") (List.mem_of_getElem? (i := 8) rfl)) (fun _ h9 => h9) rfl dX1_findTails_111 ?_
            refine lv_iload_n hx hb dX1_findTails_114 rfl (lv_at hl 2 rfl) ?_
            refine lv_iconst (v := (-1)) hx hb dX1_findTails_115 (by decide) ?_
            refine va_iast hx hb hK hP hD hS 3 0 rfl rfl (v_in (by omega)) dX1_findTails_116 (fun H locs hPn hDn hSn => ?_)
            clear hP hD hS
            have hP : va_P (dC, dI) vwCl [(oW, .inr (1, [.ref oC, .ref oK, .ref nw, .ref w1, .ref w2, .ref w3, .ref o7, .ref o8, .ref o9, .ref w4, .ref w5, .ref w6, .ref w7, .int ke, .int tl, .int fsh, .int wi, .int ri, .int fm, .int lm])), (w1, .inl (cI, 801, .inl fta1)), (w2, .inl (cI, 801, .inl fta2)), (w3, .inl (cI, 801, .inl (upd fta3 (p_ : Int32).toNatClampNeg (-1)))), (oK, .inr (3, [.ref k1, .ref k2, .int lK])), (k1, .inl (cI, 1024, .inl fK1)), (k2, .inl (cI, 1024, .inl fK2)), (oC, .inr (2, [.ref o4, .ref o5])), (o4, .inr (10, [.ref a41, .ref a42, .ref a43, .int l4])), (a41, .inl (cI, 256, .inl f41)), (o5, .inr (10, [.ref a51, .ref a52, .ref a53, .int l5])), (a51, .inl (cI, 256, .inl f51)), (nw, .inr (5, [.ref aw, .int lw])), (aw, .inl (cI, 800, .inl fw))] H := hPn
            have hD : va_D A [(oW, .inr (1, [.ref oC, .ref oK, .ref nw, .ref w1, .ref w2, .ref w3, .ref o7, .ref o8, .ref o9, .ref w4, .ref w5, .ref w6, .ref w7, .int ke, .int tl, .int fsh, .int wi, .int ri, .int fm, .int lm])), (w1, .inl (cI, 801, .inl fta1)), (w2, .inl (cI, 801, .inl fta2)), (w3, .inl (cI, 801, .inl (upd fta3 (p_ : Int32).toNatClampNeg (-1)))), (oK, .inr (3, [.ref k1, .ref k2, .int lK])), (k1, .inl (cI, 1024, .inl fK1)), (k2, .inl (cI, 1024, .inl fK2)), (oC, .inr (2, [.ref o4, .ref o5])), (o4, .inr (10, [.ref a41, .ref a42, .ref a43, .int l4])), (a41, .inl (cI, 256, .inl f41)), (o5, .inr (10, [.ref a51, .ref a52, .ref a53, .int l5])), (a51, .inl (cI, 256, .inl f51)), (nw, .inr (5, [.ref aw, .int lw])), (aw, .inl (cI, 800, .inl fw))] := hDn
            have hS := hSn
            clear hPn hDn hSn
            obtain ⟨f_28, ef_28⟩ : ∃ g : Nat → Int32, g = upd fta3 (p_ : Int32).toNatClampNeg (-1) := ⟨_, rfl⟩
            rw [← ef_28] at hP hD
            refine lv_goto (tgt := 179) hx hb dX1_findTails_117 (by decide) ?_
            obtain ⟨x_29, ex_29⟩ : ∃ y : Int32, y = p_ + (-1) := ⟨_, rfl⟩
            have tx_29 : x_29.toInt = p_.toInt + (-1) := v_add ex_29 (by show -2147483648 ≤ p_.toInt + (-1); omega) (by show p_.toInt + (-1) < 2147483648; omega)
            refine lv_iinc (v := x_29) (lv' := [(2, .int x_29), (4, .int x_12), (3, .int r_9), (1, .int lw), (0, .ref oW)]) hx hb dX1_findTails_179 hl (k := 2) rfl (by rw [ex_29]; rfl) (by decide) rfl (fun ls hl => ?_)
            refine lv_goto (tgt := 40) hx hb dX1_findTails_182 (by decide) ?_
            exact ih_40 x_29 fta1 fta2 f_28 _ _ _ (ms_lt hm_40 (by show ((x_29.toInt + 1 : Int)) < p_.toInt + 1; omega) (by show (0 : Int) < p_.toInt + 1; omega)) (by show -1 ≤ x_29.toInt ∧ x_29.toInt ≤ 799; omega) (by show lm.toInt ≤ x_29.toInt ∧ x_29.toInt < lw.toInt; omega) (tl_lb hlb ef_28 (by omega) (by omega) (by first | exact Or.inl rfl | exact Or.inr (by omega))) (fun p p1 p2 => (Nat.lt_or_ge p_.toNatClampNeg p).elim (fun w9 => tl_k (x := 0) (y := 0) (htl p (by omega) p2) (by omega) (Or.inr rfl) (Or.inr rfl) ef_28) (fun w9 => (show p = p_.toNatClampNeg by omega) ▸ (tl_n ef_28 (tl_non (htl x_12.toNatClampNeg (by omega) (by omega)) (by rw [hd9.1]; omega) (by rw [← ex_15]; exact c_16) (by omega))))) (hP.sub [0, 1, 2, 3, 13, 7, 8, 9, 10, 11, 4, 5, 6, 12] rfl) (hD.sub [0, 1, 2, 3, 13, 7, 8, 9, 10, 11, 4, 5, 6, 12] (by decide +kernel) rfl) hS (lv_sub hl [0, 3, 4] rfl)
        · have tc_10 : r_9.toInt = (-1) := v_eq c_10
          refine lv_iconst (v := (-1)) hx hb dX1_findTails_75 (by decide) ?_
          refine lv_goto (tgt := 85) hx hb dX1_findTails_76 (by decide) ?_
          refine lv_istore (lv' := [(4, .int (-1)), (3, .int r_9), (2, .int p_), (1, .int lw), (0, .ref oW)]) hx hb dX1_findTails_85 hl (by decide) rfl (fun ls hl => ?_)
          refine lv_iload hx hb dX1_findTails_87 (lv_at hl 0 rfl) ?_
          refine lv_iload_n hx hb dX1_findTails_89 rfl (lv_at hl 2 rfl) ?_
          refine lv_icmp_le (tgt := 110) hx hb dX1_findTails_90 (by decide) (fun c_30 => ?_) (fun c_30 => by exfalso; have tc_30 : p_.toInt < (-1) := v_nle c_30; omega)
          have tc_30 : (-1) ≤ p_.toInt := v_le c_30
          refine lv_aload_n hx hb dX1_findTails_110 rfl (lv_at hl 4 rfl) ?_
          refine va_get (D := (dC, dI)) (ci := 1) (v := .ref w3) (C := RX1) (T := TX1) (N := 20) hx hb hts in_X1 hown hK hP 0 rfl rfl 5 (by decide) (hts (.fieldLink RX1 27 "TextMender$Choices" "tailLetters" "[I") (List.mem_of_getElem? (i := 8) rfl)) (fun _ h9 => h9) rfl dX1_findTails_111 ?_
          refine lv_iload_n hx hb dX1_findTails_114 rfl (lv_at hl 2 rfl) ?_
          refine lv_iconst (v := (-1)) hx hb dX1_findTails_115 (by decide) ?_
          refine va_iast hx hb hK hP hD hS 3 0 rfl rfl (v_in (by omega)) dX1_findTails_116 (fun H locs hPn hDn hSn => ?_)
          clear hP hD hS
          have hP : va_P (dC, dI) vwCl [(oW, .inr (1, [.ref oC, .ref oK, .ref nw, .ref w1, .ref w2, .ref w3, .ref o7, .ref o8, .ref o9, .ref w4, .ref w5, .ref w6, .ref w7, .int ke, .int tl, .int fsh, .int wi, .int ri, .int fm, .int lm])), (w1, .inl (cI, 801, .inl fta1)), (w2, .inl (cI, 801, .inl fta2)), (w3, .inl (cI, 801, .inl (upd fta3 (p_ : Int32).toNatClampNeg (-1)))), (oK, .inr (3, [.ref k1, .ref k2, .int lK])), (k1, .inl (cI, 1024, .inl fK1)), (k2, .inl (cI, 1024, .inl fK2)), (oC, .inr (2, [.ref o4, .ref o5])), (o4, .inr (10, [.ref a41, .ref a42, .ref a43, .int l4])), (a41, .inl (cI, 256, .inl f41)), (o5, .inr (10, [.ref a51, .ref a52, .ref a53, .int l5])), (a51, .inl (cI, 256, .inl f51)), (nw, .inr (5, [.ref aw, .int lw])), (aw, .inl (cI, 800, .inl fw))] H := hPn
          have hD : va_D A [(oW, .inr (1, [.ref oC, .ref oK, .ref nw, .ref w1, .ref w2, .ref w3, .ref o7, .ref o8, .ref o9, .ref w4, .ref w5, .ref w6, .ref w7, .int ke, .int tl, .int fsh, .int wi, .int ri, .int fm, .int lm])), (w1, .inl (cI, 801, .inl fta1)), (w2, .inl (cI, 801, .inl fta2)), (w3, .inl (cI, 801, .inl (upd fta3 (p_ : Int32).toNatClampNeg (-1)))), (oK, .inr (3, [.ref k1, .ref k2, .int lK])), (k1, .inl (cI, 1024, .inl fK1)), (k2, .inl (cI, 1024, .inl fK2)), (oC, .inr (2, [.ref o4, .ref o5])), (o4, .inr (10, [.ref a41, .ref a42, .ref a43, .int l4])), (a41, .inl (cI, 256, .inl f41)), (o5, .inr (10, [.ref a51, .ref a52, .ref a53, .int l5])), (a51, .inl (cI, 256, .inl f51)), (nw, .inr (5, [.ref aw, .int lw])), (aw, .inl (cI, 800, .inl fw))] := hDn
          have hS := hSn
          clear hPn hDn hSn
          obtain ⟨f_31, ef_31⟩ : ∃ g : Nat → Int32, g = upd fta3 (p_ : Int32).toNatClampNeg (-1) := ⟨_, rfl⟩
          rw [← ef_31] at hP hD
          refine lv_goto (tgt := 179) hx hb dX1_findTails_117 (by decide) ?_
          obtain ⟨x_32, ex_32⟩ : ∃ y : Int32, y = p_ + (-1) := ⟨_, rfl⟩
          have tx_32 : x_32.toInt = p_.toInt + (-1) := v_add ex_32 (by show -2147483648 ≤ p_.toInt + (-1); omega) (by show p_.toInt + (-1) < 2147483648; omega)
          refine lv_iinc (v := x_32) (lv' := [(2, .int x_32), (4, .int (-1)), (3, .int r_9), (1, .int lw), (0, .ref oW)]) hx hb dX1_findTails_179 hl (k := 2) rfl (by rw [ex_32]; rfl) (by decide) rfl (fun ls hl => ?_)
          refine lv_goto (tgt := 40) hx hb dX1_findTails_182 (by decide) ?_
          exact ih_40 x_32 fta1 fta2 f_31 _ _ _ (ms_lt hm_40 (by show ((x_32.toInt + 1 : Int)) < p_.toInt + 1; omega) (by show (0 : Int) < p_.toInt + 1; omega)) (by show -1 ≤ x_32.toInt ∧ x_32.toInt ≤ 799; omega) (by show lm.toInt ≤ x_32.toInt ∧ x_32.toInt < lw.toInt; omega) (tl_lb hlb ef_31 (by omega) (by omega) (by first | exact Or.inl rfl | exact Or.inr (by omega))) (fun p p1 p2 => (Nat.lt_or_ge p_.toNatClampNeg p).elim (fun w9 => tl_k (x := 0) (y := 0) (htl p (by omega) p2) (by omega) (Or.inr rfl) (Or.inr rfl) ef_31) (fun w9 => (show p = p_.toNatClampNeg by omega) ▸ (tl_n ef_31 (tl_no0 (F_dc_0 hf9_0 c_10) (by omega))))) (hP.sub [0, 1, 2, 3, 13, 7, 8, 9, 10, 11, 4, 5, 6, 12] rfl) (hD.sub [0, 1, 2, 3, 13, 7, 8, 9, 10, 11, 4, 5, 6, 12] (by decide +kernel) rfl) hS (lv_sub hl [0, 3, 4] rfl)
  exact LOOP_40 _ x_6 f_3 f_4 f_5 _ _ _ (ms_s _) (by show -1 ≤ x_6.toInt ∧ x_6.toInt ≤ 799; omega) (by show lm.toInt ≤ x_6.toInt ∧ x_6.toInt < lw.toInt; omega) (fun p p1 p2 => by have ep : p = lw.toNatClampNeg := (by omega); rw [ep, ef_5, pk_us]; exact Or.inr (by show (0 : Int) ≤ 0 ∧ (0 : Int) ≤ _; omega)) (fun p p1 p2 => tl_0 ef_3 ef_4 ef_5 (by omega)) hP hD hS (lv_sub hl [0, 1, 2] rfl)

theorem F_dc_n {r cd : Int32} {L4 L5 g : Nat → Int32} {n : Int} {p : Nat} (h : F_dc r cd L4 L5 g n p) (e : ¬ r = -1) : ¬ dl cd L4 L5 g n p = 0 := by
  obtain ⟨l, x, a, _⟩ := F_dc_1 h e
  have := Dec_pos a
  rw [(dl_of a).1]
  omega

set_option maxHeartbeats 40000000 in
set_option maxRecDepth 100000 in
theorem f_X1_comesBack (l : Launch) (dC : Nat → ClassId) (dI : Nat → Nat → Nat) (cI cS : ClassId) (sz : Nat) (oW : Nat) (oC : Nat) (oK : Nat) (nw : Nat) (w1 : Nat) (w2 : Nat) (w3 : Nat) (o7 : Nat) (o8 : Nat) (o9 : Nat) (w4 : Nat) (w5 : Nat) (w6 : Nat) (w7 : Nat) (aw : Nat) (o4 : Nat) (o5 : Nat) (a41 : Nat) (a42 : Nat) (a43 : Nat) (a51 : Nat) (a52 : Nat) (a53 : Nat) (ke : Int32) (tl : Int32) (fsh : Int32) (wi : Int32) (ri : Int32) (fm : Int32) (lm : Int32) (lw : Int32) (fw : Nat → Int32) (l4 : Int32) (f41 : Nat → Int32) (l5 : Int32) (f51 : Nat → Int32) (g_ke : 0 ≤ ke.toInt ∧ ke.toInt ≤ 200) (g_fsh : 0 ≤ fsh.toInt ∧ fsh.toInt ≤ 1) (g_fm : -1 ≤ fm.toInt ∧ fm.toInt ≤ 800) (g_lm : -1 ≤ lm.toInt ∧ lm.toInt ≤ 800) (g_lw : 0 ≤ lw.toInt ∧ lw.toInt ≤ 800) (hlm0 : 0 ≤ lm.toInt) (hby : prg lw.toInt 0 255 fw) (hL4 : prg 256 (-1) 65535 f41) (hL5 : prg 256 (-1) 65535 f51) : Met l yX1_comesBack wsX1_comesBack ({ frames := 3, cells := 0, slots := 0, locals := 74 } : Room) (va_Pc [.ref oW] (fun U => U.heap.size = sz ∧ va_P (dC, dI) vwCl [(oW, .inr (1, [.ref oC, .ref oK, .ref nw, .ref w1, .ref w2, .ref w3, .ref o7, .ref o8, .ref o9, .ref w4, .ref w5, .ref w6, .ref w7, .int ke, .int tl, .int fsh, .int wi, .int ri, .int fm, .int lm])), (nw, .inr (5, [.ref aw, .int lw])), (aw, .inl (cI, 800, .inl fw)), (oC, .inr (2, [.ref o4, .ref o5])), (o4, .inr (10, [.ref a41, .ref a42, .ref a43, .int l4])), (a41, .inl (cI, 256, .inl f41)), (o5, .inr (10, [.ref a51, .ref a52, .ref a53, .int l5])), (a51, .inl (cI, 256, .inl f51))] U.heap ∧ va_K (dC, dI) vwCl [(cI, .int), (cS, .short)] U ∧ va_D (fun _ => True) [(oW, .inr (1, [.ref oC, .ref oK, .ref nw, .ref w1, .ref w2, .ref w3, .ref o7, .ref o8, .ref o9, .ref w4, .ref w5, .ref w6, .ref w7, .int ke, .int tl, .int fsh, .int wi, .int ri, .int fm, .int lm])), (nw, .inr (5, [.ref aw, .int lw])), (aw, .inl (cI, 800, .inl fw)), (oC, .inr (2, [.ref o4, .ref o5])), (o4, .inr (10, [.ref a41, .ref a42, .ref a43, .int l4])), (a41, .inl (cI, 256, .inl f41)), (o5, .inr (10, [.ref a51, .ref a52, .ref a53, .int l5])), (a51, .inl (cI, 256, .inl f51))] ∧ va_Nw (.methodLinkNest RX2 52 yX11_isLetter "TextMender") U)) (va_Qi (fun (r : Int32) (u : Int32) => r = u) (fun (r : Int32) t => va_P (dC, dI) vwCl [(oW, .inr (1, [.ref oC, .ref oK, .ref nw, .ref w1, .ref w2, .ref w3, .ref o7, .ref o8, .ref o9, .ref w4, .ref w5, .ref w6, .ref w7, .int ke, .int tl, .int fsh, .int wi, .int ri, .int fm, .int lm])), (nw, .inr (5, [.ref aw, .int lw])), (aw, .inl (cI, 800, .inl fw)), (oC, .inr (2, [.ref o4, .ref o5])), (o4, .inr (10, [.ref a41, .ref a42, .ref a43, .int l4])), (a41, .inl (cI, 256, .inl f41)), (o5, .inr (10, [.ref a51, .ref a52, .ref a53, .int l5])), (a51, .inl (cI, 256, .inl f51))] t.heap ∧ va_D (va_A [(oW, .inr (1, [.ref oC, .ref oK, .ref nw, .ref w1, .ref w2, .ref w3, .ref o7, .ref o8, .ref o9, .ref w4, .ref w5, .ref w6, .ref w7, .int ke, .int tl, .int fsh, .int wi, .int ri, .int fm, .int lm])), (nw, .inr (5, [.ref aw, .int lw])), (aw, .inl (cI, 800, .inl fw)), (oC, .inr (2, [.ref o4, .ref o5])), (o4, .inr (10, [.ref a41, .ref a42, .ref a43, .int l4])), (a41, .inl (cI, 256, .inl f41)), (o5, .inr (10, [.ref a51, .ref a52, .ref a53, .int l5])), (a51, .inl (cI, 256, .inl f51))] sz) [(oW, .inr (1, [.ref oC, .ref oK, .ref nw, .ref w1, .ref w2, .ref w3, .ref o7, .ref o8, .ref o9, .ref w4, .ref w5, .ref w6, .ref w7, .int ke, .int tl, .int fsh, .int wi, .int ri, .int fm, .int lm])), (nw, .inr (5, [.ref aw, .int lw])), (aw, .inl (cI, 800, .inl fw)), (oC, .inr (2, [.ref o4, .ref o5])), (o4, .inr (10, [.ref a41, .ref a42, .ref a43, .int l4])), (a41, .inl (cI, 256, .inl f41)), (o5, .inr (10, [.ref a51, .ref a52, .ref a53, .int l5])), (a51, .inl (cI, 256, .inl f51))] ∧ (0 ≤ r.toInt ∧ r.toInt ≤ 1) ∧ ((r = 1 ∧ (dl ri f41 f51 fw lw.toInt lm.toNatClampNeg = 0 ∧ (fm.toInt = -1 ∨ dl ri f41 f51 fw lw.toInt fm.toNatClampNeg = 0))) ∨ (r = 0 ∧ ¬ (dl ri f41 f51 fw lw.toInt lm.toNatClampNeg = 0 ∧ (fm.toInt = -1 ∨ dl ri f41 f51 fw lw.toInt fm.toNatClampNeg = 0))))) (va_A [(oW, .inr (1, [.ref oC, .ref oK, .ref nw, .ref w1, .ref w2, .ref w3, .ref o7, .ref o8, .ref o9, .ref w4, .ref w5, .ref w6, .ref w7, .int ke, .int tl, .int fsh, .int wi, .int ri, .int fm, .int lm])), (nw, .inr (5, [.ref aw, .int lw])), (aw, .inl (cI, 800, .inl fw)), (oC, .inr (2, [.ref o4, .ref o5])), (o4, .inr (10, [.ref a41, .ref a42, .ref a43, .int l4])), (a41, .inl (cI, 256, .inl f41)), (o5, .inr (10, [.ref a51, .ref a52, .ref a53, .int l5])), (a51, .inl (cI, 256, .inl f51))] sz)) 0 0 (va_A [(oW, .inr (1, [.ref oC, .ref oK, .ref nw, .ref w1, .ref w2, .ref w3, .ref o7, .ref o8, .ref o9, .ref w4, .ref w5, .ref w6, .ref w7, .int ke, .int tl, .int fsh, .int wi, .int ri, .int fm, .int lm])), (nw, .inr (5, [.ref aw, .int lw])), (aw, .inl (cI, 800, .inl fw)), (oC, .inr (2, [.ref o4, .ref o5])), (o4, .inr (10, [.ref a41, .ref a42, .ref a43, .int l4])), (a41, .inl (cI, 256, .inl f41)), (o5, .inr (10, [.ref a51, .ref a52, .ref a53, .int l5])), (a51, .inl (cI, 256, .inl f51))] sz) := by
  refine Met.ofW (cc := cX1_comesBack) (maxL := 2) (ret := (some .boolean)) (by decide) rfl ?_
  intro p e s m args below meth c s₁ B hml hv
  obtain ⟨rfl, hsz, hP, hK, hD0, hN52⟩ := hv
  have hx := B.exec
  have hb := B.bytes
  have hr := B.returns
  have hts := atoms_spec (ws := wsX1_comesBack) B.pre
  have hown : s.vm.findClass RX1 = some m.cls := findClass_of_methodNamed B.named
  have hlocks := B.notSynchronized
  have in_X1 : ∀ w ∈ wsX10, w ∈ wsX1_comesBack := fun _ h => List.mem_cons_of_mem _ (List.mem_append_left _ (List.mem_append_left _ (List.mem_append_left _ (List.mem_append_right _ (h)))))
  subst hsz
  have hD := hD0.self (sz := s.heap.size)
  generalize hAe : va_A [(oW, .inr (1, [.ref oC, .ref oK, .ref nw, .ref w1, .ref w2, .ref w3, .ref o7, .ref o8, .ref o9, .ref w4, .ref w5, .ref w6, .ref w7, .int ke, .int tl, .int fsh, .int wi, .int ri, .int fm, .int lm])), (nw, .inr (5, [.ref aw, .int lw])), (aw, .inl (cI, 800, .inl fw)), (oC, .inr (2, [.ref o4, .ref o5])), (o4, .inr (10, [.ref a41, .ref a42, .ref a43, .int l4])), (a41, .inl (cI, 256, .inl f41)), (o5, .inr (10, [.ref a51, .ref a52, .ref a53, .int l5])), (a51, .inl (cI, 256, .inl f51))] s.heap.size = A at hD ⊢
  have hA : ∀ q : Nat, s.heap.size ≤ q → A q := fun q h => by rw [← hAe]; exact Or.inr h
  have hS : va_S A s.heap s.heap [] := va_S.rf
  have hP : va_P (dC, dI) vwCl [(oW, .inr (1, [.ref oC, .ref oK, .ref nw, .ref w1, .ref w2, .ref w3, .ref o7, .ref o8, .ref o9, .ref w4, .ref w5, .ref w6, .ref w7, .int ke, .int tl, .int fsh, .int wi, .int ri, .int fm, .int lm])), (nw, .inr (5, [.ref aw, .int lw])), (aw, .inl (cI, 800, .inl fw)), (oC, .inr (2, [.ref o4, .ref o5])), (o4, .inr (10, [.ref a41, .ref a42, .ref a43, .int l4])), (a41, .inl (cI, 256, .inl f41)), (o5, .inr (10, [.ref a51, .ref a52, .ref a53, .int l5])), (a51, .inl (cI, 256, .inl f51))] s.heap := hP
  have hl := lv_entry ([.ref oW]) (n := 2) (Nat.le_of_ble_eq_true rfl)
  rw [lg_entry_eq]
  generalize (lg_sl ([.ref oW]) ++ List.replicate (2 - (lg_sl ([.ref oW])).length) Slot.unset).toArray = ls at hl ⊢
  have hl : lv_has ls 2 [(0, .ref oW)] := hl
  obtain ⟨QQ, hQQ⟩ : ∃ QQ : Array Value → State → Outcome → State → Prop, QQ = va_Qi (fun (r : Int32) (u : Int32) => r = u) (fun (r : Int32) t => va_P (dC, dI) vwCl [(oW, .inr (1, [.ref oC, .ref oK, .ref nw, .ref w1, .ref w2, .ref w3, .ref o7, .ref o8, .ref o9, .ref w4, .ref w5, .ref w6, .ref w7, .int ke, .int tl, .int fsh, .int wi, .int ri, .int fm, .int lm])), (nw, .inr (5, [.ref aw, .int lw])), (aw, .inl (cI, 800, .inl fw)), (oC, .inr (2, [.ref o4, .ref o5])), (o4, .inr (10, [.ref a41, .ref a42, .ref a43, .int l4])), (a41, .inl (cI, 256, .inl f41)), (o5, .inr (10, [.ref a51, .ref a52, .ref a53, .int l5])), (a51, .inl (cI, 256, .inl f51))] t.heap ∧ va_D A [(oW, .inr (1, [.ref oC, .ref oK, .ref nw, .ref w1, .ref w2, .ref w3, .ref o7, .ref o8, .ref o9, .ref w4, .ref w5, .ref w6, .ref w7, .int ke, .int tl, .int fsh, .int wi, .int ri, .int fm, .int lm])), (nw, .inr (5, [.ref aw, .int lw])), (aw, .inl (cI, 800, .inl fw)), (oC, .inr (2, [.ref o4, .ref o5])), (o4, .inr (10, [.ref a41, .ref a42, .ref a43, .int l4])), (a41, .inl (cI, 256, .inl f41)), (o5, .inr (10, [.ref a51, .ref a52, .ref a53, .int l5])), (a51, .inl (cI, 256, .inl f51))] ∧ (0 ≤ r.toInt ∧ r.toInt ≤ 1) ∧ ((r = 1 ∧ (dl ri f41 f51 fw lw.toInt lm.toNatClampNeg = 0 ∧ (fm.toInt = -1 ∨ dl ri f41 f51 fw lw.toInt fm.toNatClampNeg = 0))) ∨ (r = 0 ∧ ¬ (dl ri f41 f51 fw lw.toInt lm.toNatClampNeg = 0 ∧ (fm.toInt = -1 ∨ dl ri f41 f51 fw lw.toInt fm.toNatClampNeg = 0))))) A := ⟨_, rfl⟩
  rw [← hQQ]
  refine lv_aload_n hx hb dX1_comesBack_0 rfl (lv_at hl 0 rfl) ?_
  refine va_get (D := (dC, dI)) (ci := 1) (v := .ref nw) (C := RX1) (T := TX1) (N := 20) hx hb hts in_X1 hown hK hP 0 rfl rfl 2 (by decide) (hts (.fieldLink RX1 16 "TextMender$Choices" "bytes" "LTextMender$Numbers;") (List.mem_of_getElem? (i := 1) rfl)) (fun _ h9 => h9) rfl dX1_comesBack_1 ?_
  have hPc := hP.sub (ws' := [(nw, .inr (5, [.ref aw, .int lw]))]) [1] rfl
  have hDc := hD.sub (ws' := [(nw, .inr (5, [.ref aw, .int lw]))]) [1] (by decide +kernel) rfl
  have hFc := va_free (wc := [(nw, .inr (5, [.ref aw, .int lw]))]) hD hS hA [1] rfl
  refine va_calli (va_runV (As := []) (rest := []) ⟨hx, hb, hml, hown, hts⟩ (m_X5_length l dC dI cI cS s.heap.size nw aw lw ) (cwV 0 hts gX1_comesBack_X5_length rfl rfl rfl (by decide +kernel) ⟨Nat.le_of_ble_eq_true rfl, Nat.le_of_ble_eq_true rfl⟩) ⟨fun a U g mk q => by obtain ⟨q0, q1, qP, qK, qD⟩ := q; exact ⟨q0, q1, qP, va_K.moved (u := U) (U := U.calling g mk a) (Vm.Alike.refl U.vm) qK, qD⟩, va_recv hK hPc (ci := 5) (q0 := 0) rfl rfl, fun U hU hW => ⟨rfl, by rw [hU], by rw [hU]; exact hPc, va_K.moved hW.alike hK, hDc.weaken (fun _ _ _ _ => trivial)⟩⟩ rfl rfl hl.1 rfl (lv_room (Nat.le_of_ble_eq_true rfl)) dX1_comesBack_4 ⟨Nat.le_of_ble_eq_true rfl, Nat.le_of_ble_eq_true rfl⟩) hS (fun q _ h => hFc q h) hFc (fun r_1 u t H1 locs ht hvm hw hB hz1 hk1 hSn => ?_)
  subst hw
  obtain ⟨hP1, hD1, hf1_0⟩ := hB
  rw [ht] at hP1
  obtain ⟨hPn, hDn⟩ := va_join (wr := [(oW, .inr (1, [.ref oC, .ref oK, .ref nw, .ref w1, .ref w2, .ref w3, .ref o7, .ref o8, .ref o9, .ref w4, .ref w5, .ref w6, .ref w7, .int ke, .int tl, .int fsh, .int wi, .int ri, .int fm, .int lm])), (aw, .inl (cI, 800, .inl fw)), (oC, .inr (2, [.ref o4, .ref o5])), (o4, .inr (10, [.ref a41, .ref a42, .ref a43, .int l4])), (a41, .inl (cI, 256, .inl f41)), (o5, .inr (10, [.ref a51, .ref a52, .ref a53, .int l5])), (a51, .inl (cI, 256, .inl f51))]) (w1 := [(nw, .inr (5, [.ref aw, .int lw]))]) hP hD [1] [0, 2, 3, 4, 5, 6, 7] rfl rfl (by decide +kernel) (by decide +kernel) hk1 hFc hP1 hD1
  clear hP hD hS hPc hDc hFc hk1 hz1 hvm ht hP1 hD1
  generalize H1 = H at hPn hSn ⊢
  have hP : va_P (dC, dI) vwCl [(oW, .inr (1, [.ref oC, .ref oK, .ref nw, .ref w1, .ref w2, .ref w3, .ref o7, .ref o8, .ref o9, .ref w4, .ref w5, .ref w6, .ref w7, .int ke, .int tl, .int fsh, .int wi, .int ri, .int fm, .int lm])), (aw, .inl (cI, 800, .inl fw)), (oC, .inr (2, [.ref o4, .ref o5])), (o4, .inr (10, [.ref a41, .ref a42, .ref a43, .int l4])), (a41, .inl (cI, 256, .inl f41)), (o5, .inr (10, [.ref a51, .ref a52, .ref a53, .int l5])), (a51, .inl (cI, 256, .inl f51)), (nw, .inr (5, [.ref aw, .int lw]))] H := hPn
  have hD : va_D A [(oW, .inr (1, [.ref oC, .ref oK, .ref nw, .ref w1, .ref w2, .ref w3, .ref o7, .ref o8, .ref o9, .ref w4, .ref w5, .ref w6, .ref w7, .int ke, .int tl, .int fsh, .int wi, .int ri, .int fm, .int lm])), (aw, .inl (cI, 800, .inl fw)), (oC, .inr (2, [.ref o4, .ref o5])), (o4, .inr (10, [.ref a41, .ref a42, .ref a43, .int l4])), (a41, .inl (cI, 256, .inl f41)), (o5, .inr (10, [.ref a51, .ref a52, .ref a53, .int l5])), (a51, .inl (cI, 256, .inl f51)), (nw, .inr (5, [.ref aw, .int lw]))] := hDn
  have hS := hSn
  clear hPn hDn hSn
  rw [hf1_0]
  refine lv_istore_n (lv' := [(1, .int lw), (0, .ref oW)]) hx hb dX1_comesBack_7 rfl hl (by decide) rfl (fun ls hl => ?_)
  refine lv_aload_n hx hb dX1_comesBack_8 rfl (lv_at hl 1 rfl) ?_
  refine va_get (D := (dC, dI)) (ci := 1) (v := .ref oC) (C := RX1) (T := TX1) (N := 20) hx hb hts in_X1 hown hK hP 0 rfl rfl 0 (by decide) (hts (.fieldLink RX1 42 "TextMender$Choices" "codes" "LTextMender$Codes;") (List.mem_of_getElem? (i := 2) rfl)) (fun _ h9 => h9) rfl dX1_comesBack_9 ?_
  refine lv_aload_n hx hb dX1_comesBack_12 rfl (lv_at hl 1 rfl) ?_
  refine va_get (D := (dC, dI)) (ci := 1) (v := .int ri) (C := RX1) (T := TX1) (N := 20) hx hb hts in_X1 hown hK hP 0 rfl rfl 17 (by decide) (hts (.fieldLink RX1 79 "TextMender$Choices" "readIn" "I") (List.mem_of_getElem? (i := 3) rfl)) (fun _ h9 => h9) rfl dX1_comesBack_13 ?_
  refine lv_aload_n hx hb dX1_comesBack_16 rfl (lv_at hl 1 rfl) ?_
  refine va_get (D := (dC, dI)) (ci := 1) (v := .ref nw) (C := RX1) (T := TX1) (N := 20) hx hb hts in_X1 hown hK hP 0 rfl rfl 2 (by decide) (hts (.fieldLink RX1 16 "TextMender$Choices" "bytes" "LTextMender$Numbers;") (List.mem_of_getElem? (i := 1) rfl)) (fun _ h9 => h9) rfl dX1_comesBack_17 ?_
  refine lv_aload_n hx hb dX1_comesBack_20 rfl (lv_at hl 1 rfl) ?_
  refine va_get (D := (dC, dI)) (ci := 1) (v := .int lm) (C := RX1) (T := TX1) (N := 20) hx hb hts in_X1 hown hK hP 0 rfl rfl 19 (by decide) (hts (.fieldLink RX1 85 "TextMender$Choices" "lastMark" "I") (List.mem_of_getElem? (i := 4) rfl)) (fun _ h9 => h9) rfl dX1_comesBack_21 ?_
  refine lv_iload_n hx hb dX1_comesBack_24 rfl (lv_at hl 0 rfl) ?_
  have hPc := hP.sub (ws' := [(oC, .inr (2, [.ref o4, .ref o5])), (o4, .inr (10, [.ref a41, .ref a42, .ref a43, .int l4])), (a41, .inl (cI, 256, .inl f41)), (o5, .inr (10, [.ref a51, .ref a52, .ref a53, .int l5])), (a51, .inl (cI, 256, .inl f51)), (nw, .inr (5, [.ref aw, .int lw])), (aw, .inl (cI, 800, .inl fw))]) [2, 3, 4, 5, 6, 7, 1] rfl
  have hDc := hD.sub (ws' := [(oC, .inr (2, [.ref o4, .ref o5])), (o4, .inr (10, [.ref a41, .ref a42, .ref a43, .int l4])), (a41, .inl (cI, 256, .inl f41)), (o5, .inr (10, [.ref a51, .ref a52, .ref a53, .int l5])), (a51, .inl (cI, 256, .inl f51)), (nw, .inr (5, [.ref aw, .int lw])), (aw, .inl (cI, 800, .inl fw))]) [2, 3, 4, 5, 6, 7, 1] (by decide +kernel) rfl
  have hFc := va_free (wc := [(oC, .inr (2, [.ref o4, .ref o5])), (o4, .inr (10, [.ref a41, .ref a42, .ref a43, .int l4])), (a41, .inl (cI, 256, .inl f41)), (o5, .inr (10, [.ref a51, .ref a52, .ref a53, .int l5])), (a51, .inl (cI, 256, .inl f51)), (nw, .inr (5, [.ref aw, .int lw])), (aw, .inl (cI, 800, .inl fw))]) hD hS hA [2, 3, 4, 5, 6, 7, 1] rfl
  refine va_calli (va_runV (As := [.int ri, .ref nw, .int lm, .int lw]) (rest := []) ⟨hx, hb, hml, hown, hts⟩ (f_X2_decode l dC dI cI cS H.size oC nw o4 o5 a41 a42 a43 a51 a52 a53 aw 800 l4 f41 l5 f51 lw fw ri lm lw (by omega) (by omega) (by omega) (by omega) (hby) (hL4) (hL5)) (cwV 4 hts gX1_comesBack_X2_decode rfl rfl rfl (by decide +kernel) ⟨Nat.le_of_ble_eq_true rfl, Nat.le_of_ble_eq_true rfl⟩) ⟨fun a U g mk q => by obtain ⟨q0, q1, qP, qK, qD, qN0⟩ := q; exact ⟨q0, q1, qP, va_K.moved (u := U) (U := U.calling g mk a) (Vm.Alike.refl U.vm) qK, qD, va_Nw.same rfl rfl qN0⟩, va_recv hK hPc (ci := 2) (q0 := 0) rfl rfl, fun U hU hW => ⟨rfl, by rw [hU], by rw [hU]; exact hPc, va_K.moved hW.alike hK, hDc.weaken (fun _ _ _ _ => trivial), va_Nw.warmM hW hN52⟩⟩ rfl rfl hl.1 rfl (lv_room (Nat.le_of_ble_eq_true rfl)) dX1_comesBack_25 ⟨Nat.le_of_ble_eq_true rfl, Nat.le_of_ble_eq_true rfl⟩) hS (fun q _ h => hFc q h) hFc (fun r_2 u t H1 locs ht hvm hw hB hz1 hk1 hSn => ?_)
  subst hw
  obtain ⟨hP1, hD1, hf2_0⟩ := hB
  rw [ht] at hP1
  obtain ⟨hPn, hDn⟩ := va_join (wr := [(oW, .inr (1, [.ref oC, .ref oK, .ref nw, .ref w1, .ref w2, .ref w3, .ref o7, .ref o8, .ref o9, .ref w4, .ref w5, .ref w6, .ref w7, .int ke, .int tl, .int fsh, .int wi, .int ri, .int fm, .int lm]))]) (w1 := [(oC, .inr (2, [.ref o4, .ref o5])), (o4, .inr (10, [.ref a41, .ref a42, .ref a43, .int l4])), (a41, .inl (cI, 256, .inl f41)), (o5, .inr (10, [.ref a51, .ref a52, .ref a53, .int l5])), (a51, .inl (cI, 256, .inl f51)), (nw, .inr (5, [.ref aw, .int lw])), (aw, .inl (cI, 800, .inl fw))]) hP hD [2, 3, 4, 5, 6, 7, 1] [0] rfl rfl (by decide +kernel) (by decide +kernel) hk1 hFc hP1 hD1
  clear hP hD hS hPc hDc hFc hk1 hz1 hvm ht hP1 hD1
  generalize H1 = H at hPn hSn ⊢
  have hP : va_P (dC, dI) vwCl [(oW, .inr (1, [.ref oC, .ref oK, .ref nw, .ref w1, .ref w2, .ref w3, .ref o7, .ref o8, .ref o9, .ref w4, .ref w5, .ref w6, .ref w7, .int ke, .int tl, .int fsh, .int wi, .int ri, .int fm, .int lm])), (oC, .inr (2, [.ref o4, .ref o5])), (o4, .inr (10, [.ref a41, .ref a42, .ref a43, .int l4])), (a41, .inl (cI, 256, .inl f41)), (o5, .inr (10, [.ref a51, .ref a52, .ref a53, .int l5])), (a51, .inl (cI, 256, .inl f51)), (nw, .inr (5, [.ref aw, .int lw])), (aw, .inl (cI, 800, .inl fw))] H := hPn
  have hD : va_D A [(oW, .inr (1, [.ref oC, .ref oK, .ref nw, .ref w1, .ref w2, .ref w3, .ref o7, .ref o8, .ref o9, .ref w4, .ref w5, .ref w6, .ref w7, .int ke, .int tl, .int fsh, .int wi, .int ri, .int fm, .int lm])), (oC, .inr (2, [.ref o4, .ref o5])), (o4, .inr (10, [.ref a41, .ref a42, .ref a43, .int l4])), (a41, .inl (cI, 256, .inl f41)), (o5, .inr (10, [.ref a51, .ref a52, .ref a53, .int l5])), (a51, .inl (cI, 256, .inl f51)), (nw, .inr (5, [.ref aw, .int lw])), (aw, .inl (cI, 800, .inl fw))] := hDn
  have hS := hSn
  clear hPn hDn hSn
  refine lv_iconst (v := (-1)) hx hb dX1_comesBack_28 (by decide) ?_
  refine lv_icmp_ne (tgt := 68) hx hb dX1_comesBack_29 (by decide) (fun c_3 => ?_) (fun c_3 => ?_)
  · have tc_3 : ¬ r_2.toInt = (-1) := v_ne c_3
    refine lv_iconst (v := 0) hx hb dX1_comesBack_68 (by decide) ?_
    have hP9 := hP.sub (ws' := [(oW, .inr (1, [.ref oC, .ref oK, .ref nw, .ref w1, .ref w2, .ref w3, .ref o7, .ref o8, .ref o9, .ref w4, .ref w5, .ref w6, .ref w7, .int ke, .int tl, .int fsh, .int wi, .int ri, .int fm, .int lm])), (nw, .inr (5, [.ref aw, .int lw])), (aw, .inl (cI, 800, .inl fw)), (oC, .inr (2, [.ref o4, .ref o5])), (o4, .inr (10, [.ref a41, .ref a42, .ref a43, .int l4])), (a41, .inl (cI, 256, .inl f41)), (o5, .inr (10, [.ref a51, .ref a52, .ref a53, .int l5])), (a51, .inl (cI, 256, .inl f51))]) [0, 6, 7, 1, 2, 3, 4, 5] rfl
    have hD9 := hD.sub (ws' := [(oW, .inr (1, [.ref oC, .ref oK, .ref nw, .ref w1, .ref w2, .ref w3, .ref o7, .ref o8, .ref o9, .ref w4, .ref w5, .ref w6, .ref w7, .int ke, .int tl, .int fsh, .int wi, .int ri, .int fm, .int lm])), (nw, .inr (5, [.ref aw, .int lw])), (aw, .inl (cI, 800, .inl fw)), (oC, .inr (2, [.ref o4, .ref o5])), (o4, .inr (10, [.ref a41, .ref a42, .ref a43, .int l4])), (a41, .inl (cI, 256, .inl f41)), (o5, .inr (10, [.ref a51, .ref a52, .ref a53, .int l5])), (a51, .inl (cI, 256, .inl f51))]) [0, 6, 7, 1, 2, 3, 4, 5] (by decide +kernel) rfl
    rw [hQQ]
    exact W.zret (v := 0) (ty := .boolean) hx hb hr (rfl) (fun t ht hW => ⟨⟨0, 0, rfl, rfl, ⟨by rw [ht]; exact hP9, hD9, by decide, Or.inr ⟨rfl, fun h9 => F_dc_n hf2_0 c_3 h9.1⟩⟩⟩, hS.F ht⟩) hS.2.2 dX1_comesBack_69
  · have tc_3 : r_2.toInt = (-1) := v_eq c_3
    refine lv_aload_n hx hb dX1_comesBack_32 rfl (lv_at hl 1 rfl) ?_
    refine va_get (D := (dC, dI)) (ci := 1) (v := .int fm) (C := RX1) (T := TX1) (N := 20) hx hb hts in_X1 hown hK hP 0 rfl rfl 18 (by decide) (hts (.fieldLink RX1 82 "TextMender$Choices" "firstMark" "I") (List.mem_of_getElem? (i := 5) rfl)) (fun _ h9 => h9) rfl dX1_comesBack_33 ?_
    refine lv_iconst (v := (-1)) hx hb dX1_comesBack_36 (by decide) ?_
    refine lv_icmp_eq (tgt := 64) hx hb dX1_comesBack_37 (by decide) (fun c_4 => ?_) (fun c_4 => ?_)
    · have tc_4 : fm.toInt = (-1) := v_eq c_4
      refine lv_iconst (v := 1) hx hb dX1_comesBack_64 (by decide) ?_
      refine lv_goto (tgt := 69) hx hb dX1_comesBack_65 (by decide) ?_
      have hP9 := hP.sub (ws' := [(oW, .inr (1, [.ref oC, .ref oK, .ref nw, .ref w1, .ref w2, .ref w3, .ref o7, .ref o8, .ref o9, .ref w4, .ref w5, .ref w6, .ref w7, .int ke, .int tl, .int fsh, .int wi, .int ri, .int fm, .int lm])), (nw, .inr (5, [.ref aw, .int lw])), (aw, .inl (cI, 800, .inl fw)), (oC, .inr (2, [.ref o4, .ref o5])), (o4, .inr (10, [.ref a41, .ref a42, .ref a43, .int l4])), (a41, .inl (cI, 256, .inl f41)), (o5, .inr (10, [.ref a51, .ref a52, .ref a53, .int l5])), (a51, .inl (cI, 256, .inl f51))]) [0, 6, 7, 1, 2, 3, 4, 5] rfl
      have hD9 := hD.sub (ws' := [(oW, .inr (1, [.ref oC, .ref oK, .ref nw, .ref w1, .ref w2, .ref w3, .ref o7, .ref o8, .ref o9, .ref w4, .ref w5, .ref w6, .ref w7, .int ke, .int tl, .int fsh, .int wi, .int ri, .int fm, .int lm])), (nw, .inr (5, [.ref aw, .int lw])), (aw, .inl (cI, 800, .inl fw)), (oC, .inr (2, [.ref o4, .ref o5])), (o4, .inr (10, [.ref a41, .ref a42, .ref a43, .int l4])), (a41, .inl (cI, 256, .inl f41)), (o5, .inr (10, [.ref a51, .ref a52, .ref a53, .int l5])), (a51, .inl (cI, 256, .inl f51))]) [0, 6, 7, 1, 2, 3, 4, 5] (by decide +kernel) rfl
      rw [hQQ]
      exact W.zret (v := 1) (ty := .boolean) hx hb hr (rfl) (fun t ht hW => ⟨⟨1, 1, rfl, rfl, ⟨by rw [ht]; exact hP9, hD9, by decide, Or.inl ⟨rfl, F_dc_0 hf2_0 c_3, Or.inl (by omega)⟩⟩⟩, hS.F ht⟩) hS.2.2 dX1_comesBack_69
    · have tc_4 : ¬ fm.toInt = (-1) := v_ne c_4
      refine lv_aload_n hx hb dX1_comesBack_40 rfl (lv_at hl 1 rfl) ?_
      refine va_get (D := (dC, dI)) (ci := 1) (v := .ref oC) (C := RX1) (T := TX1) (N := 20) hx hb hts in_X1 hown hK hP 0 rfl rfl 0 (by decide) (hts (.fieldLink RX1 42 "TextMender$Choices" "codes" "LTextMender$Codes;") (List.mem_of_getElem? (i := 2) rfl)) (fun _ h9 => h9) rfl dX1_comesBack_41 ?_
      refine lv_aload_n hx hb dX1_comesBack_44 rfl (lv_at hl 1 rfl) ?_
      refine va_get (D := (dC, dI)) (ci := 1) (v := .int ri) (C := RX1) (T := TX1) (N := 20) hx hb hts in_X1 hown hK hP 0 rfl rfl 17 (by decide) (hts (.fieldLink RX1 79 "TextMender$Choices" "readIn" "I") (List.mem_of_getElem? (i := 3) rfl)) (fun _ h9 => h9) rfl dX1_comesBack_45 ?_
      refine lv_aload_n hx hb dX1_comesBack_48 rfl (lv_at hl 1 rfl) ?_
      refine va_get (D := (dC, dI)) (ci := 1) (v := .ref nw) (C := RX1) (T := TX1) (N := 20) hx hb hts in_X1 hown hK hP 0 rfl rfl 2 (by decide) (hts (.fieldLink RX1 16 "TextMender$Choices" "bytes" "LTextMender$Numbers;") (List.mem_of_getElem? (i := 1) rfl)) (fun _ h9 => h9) rfl dX1_comesBack_49 ?_
      refine lv_aload_n hx hb dX1_comesBack_52 rfl (lv_at hl 1 rfl) ?_
      refine va_get (D := (dC, dI)) (ci := 1) (v := .int fm) (C := RX1) (T := TX1) (N := 20) hx hb hts in_X1 hown hK hP 0 rfl rfl 18 (by decide) (hts (.fieldLink RX1 82 "TextMender$Choices" "firstMark" "I") (List.mem_of_getElem? (i := 5) rfl)) (fun _ h9 => h9) rfl dX1_comesBack_53 ?_
      refine lv_iload_n hx hb dX1_comesBack_56 rfl (lv_at hl 0 rfl) ?_
      have hPc := hP.sub (ws' := [(oC, .inr (2, [.ref o4, .ref o5])), (o4, .inr (10, [.ref a41, .ref a42, .ref a43, .int l4])), (a41, .inl (cI, 256, .inl f41)), (o5, .inr (10, [.ref a51, .ref a52, .ref a53, .int l5])), (a51, .inl (cI, 256, .inl f51)), (nw, .inr (5, [.ref aw, .int lw])), (aw, .inl (cI, 800, .inl fw))]) [1, 2, 3, 4, 5, 6, 7] rfl
      have hDc := hD.sub (ws' := [(oC, .inr (2, [.ref o4, .ref o5])), (o4, .inr (10, [.ref a41, .ref a42, .ref a43, .int l4])), (a41, .inl (cI, 256, .inl f41)), (o5, .inr (10, [.ref a51, .ref a52, .ref a53, .int l5])), (a51, .inl (cI, 256, .inl f51)), (nw, .inr (5, [.ref aw, .int lw])), (aw, .inl (cI, 800, .inl fw))]) [1, 2, 3, 4, 5, 6, 7] (by decide +kernel) rfl
      have hFc := va_free (wc := [(oC, .inr (2, [.ref o4, .ref o5])), (o4, .inr (10, [.ref a41, .ref a42, .ref a43, .int l4])), (a41, .inl (cI, 256, .inl f41)), (o5, .inr (10, [.ref a51, .ref a52, .ref a53, .int l5])), (a51, .inl (cI, 256, .inl f51)), (nw, .inr (5, [.ref aw, .int lw])), (aw, .inl (cI, 800, .inl fw))]) hD hS hA [1, 2, 3, 4, 5, 6, 7] rfl
      refine va_calli (va_runV (As := [.int ri, .ref nw, .int fm, .int lw]) (rest := []) ⟨hx, hb, hml, hown, hts⟩ (f_X2_decode l dC dI cI cS H.size oC nw o4 o5 a41 a42 a43 a51 a52 a53 aw 800 l4 f41 l5 f51 lw fw ri fm lw (by omega) (by omega) (by omega) (by omega) (hby) (hL4) (hL5)) (cwV 4 hts gX1_comesBack_X2_decode rfl rfl rfl (by decide +kernel) ⟨Nat.le_of_ble_eq_true rfl, Nat.le_of_ble_eq_true rfl⟩) ⟨fun a U g mk q => by obtain ⟨q0, q1, qP, qK, qD, qN0⟩ := q; exact ⟨q0, q1, qP, va_K.moved (u := U) (U := U.calling g mk a) (Vm.Alike.refl U.vm) qK, qD, va_Nw.same rfl rfl qN0⟩, va_recv hK hPc (ci := 2) (q0 := 0) rfl rfl, fun U hU hW => ⟨rfl, by rw [hU], by rw [hU]; exact hPc, va_K.moved hW.alike hK, hDc.weaken (fun _ _ _ _ => trivial), va_Nw.warmM hW hN52⟩⟩ rfl rfl hl.1 rfl (lv_room (Nat.le_of_ble_eq_true rfl)) dX1_comesBack_57 ⟨Nat.le_of_ble_eq_true rfl, Nat.le_of_ble_eq_true rfl⟩) hS (fun q _ h => hFc q h) hFc (fun r_5 u t H1 locs ht hvm hw hB hz1 hk1 hSn => ?_)
      subst hw
      obtain ⟨hP1, hD1, hf5_0⟩ := hB
      rw [ht] at hP1
      obtain ⟨hPn, hDn⟩ := va_join (wr := [(oW, .inr (1, [.ref oC, .ref oK, .ref nw, .ref w1, .ref w2, .ref w3, .ref o7, .ref o8, .ref o9, .ref w4, .ref w5, .ref w6, .ref w7, .int ke, .int tl, .int fsh, .int wi, .int ri, .int fm, .int lm]))]) (w1 := [(oC, .inr (2, [.ref o4, .ref o5])), (o4, .inr (10, [.ref a41, .ref a42, .ref a43, .int l4])), (a41, .inl (cI, 256, .inl f41)), (o5, .inr (10, [.ref a51, .ref a52, .ref a53, .int l5])), (a51, .inl (cI, 256, .inl f51)), (nw, .inr (5, [.ref aw, .int lw])), (aw, .inl (cI, 800, .inl fw))]) hP hD [1, 2, 3, 4, 5, 6, 7] [0] rfl rfl (by decide +kernel) (by decide +kernel) hk1 hFc hP1 hD1
      clear hP hD hS hPc hDc hFc hk1 hz1 hvm ht hP1 hD1
      generalize H1 = H at hPn hSn ⊢
      have hP : va_P (dC, dI) vwCl [(oW, .inr (1, [.ref oC, .ref oK, .ref nw, .ref w1, .ref w2, .ref w3, .ref o7, .ref o8, .ref o9, .ref w4, .ref w5, .ref w6, .ref w7, .int ke, .int tl, .int fsh, .int wi, .int ri, .int fm, .int lm])), (oC, .inr (2, [.ref o4, .ref o5])), (o4, .inr (10, [.ref a41, .ref a42, .ref a43, .int l4])), (a41, .inl (cI, 256, .inl f41)), (o5, .inr (10, [.ref a51, .ref a52, .ref a53, .int l5])), (a51, .inl (cI, 256, .inl f51)), (nw, .inr (5, [.ref aw, .int lw])), (aw, .inl (cI, 800, .inl fw))] H := hPn
      have hD : va_D A [(oW, .inr (1, [.ref oC, .ref oK, .ref nw, .ref w1, .ref w2, .ref w3, .ref o7, .ref o8, .ref o9, .ref w4, .ref w5, .ref w6, .ref w7, .int ke, .int tl, .int fsh, .int wi, .int ri, .int fm, .int lm])), (oC, .inr (2, [.ref o4, .ref o5])), (o4, .inr (10, [.ref a41, .ref a42, .ref a43, .int l4])), (a41, .inl (cI, 256, .inl f41)), (o5, .inr (10, [.ref a51, .ref a52, .ref a53, .int l5])), (a51, .inl (cI, 256, .inl f51)), (nw, .inr (5, [.ref aw, .int lw])), (aw, .inl (cI, 800, .inl fw))] := hDn
      have hS := hSn
      clear hPn hDn hSn
      refine lv_iconst (v := (-1)) hx hb dX1_comesBack_60 (by decide) ?_
      refine lv_icmp_ne (tgt := 68) hx hb dX1_comesBack_61 (by decide) (fun c_6 => ?_) (fun c_6 => ?_)
      · have tc_6 : ¬ r_5.toInt = (-1) := v_ne c_6
        refine lv_iconst (v := 0) hx hb dX1_comesBack_68 (by decide) ?_
        have hP9 := hP.sub (ws' := [(oW, .inr (1, [.ref oC, .ref oK, .ref nw, .ref w1, .ref w2, .ref w3, .ref o7, .ref o8, .ref o9, .ref w4, .ref w5, .ref w6, .ref w7, .int ke, .int tl, .int fsh, .int wi, .int ri, .int fm, .int lm])), (nw, .inr (5, [.ref aw, .int lw])), (aw, .inl (cI, 800, .inl fw)), (oC, .inr (2, [.ref o4, .ref o5])), (o4, .inr (10, [.ref a41, .ref a42, .ref a43, .int l4])), (a41, .inl (cI, 256, .inl f41)), (o5, .inr (10, [.ref a51, .ref a52, .ref a53, .int l5])), (a51, .inl (cI, 256, .inl f51))]) [0, 6, 7, 1, 2, 3, 4, 5] rfl
        have hD9 := hD.sub (ws' := [(oW, .inr (1, [.ref oC, .ref oK, .ref nw, .ref w1, .ref w2, .ref w3, .ref o7, .ref o8, .ref o9, .ref w4, .ref w5, .ref w6, .ref w7, .int ke, .int tl, .int fsh, .int wi, .int ri, .int fm, .int lm])), (nw, .inr (5, [.ref aw, .int lw])), (aw, .inl (cI, 800, .inl fw)), (oC, .inr (2, [.ref o4, .ref o5])), (o4, .inr (10, [.ref a41, .ref a42, .ref a43, .int l4])), (a41, .inl (cI, 256, .inl f41)), (o5, .inr (10, [.ref a51, .ref a52, .ref a53, .int l5])), (a51, .inl (cI, 256, .inl f51))]) [0, 6, 7, 1, 2, 3, 4, 5] (by decide +kernel) rfl
        rw [hQQ]
        exact W.zret (v := 0) (ty := .boolean) hx hb hr (rfl) (fun t ht hW => ⟨⟨0, 0, rfl, rfl, ⟨by rw [ht]; exact hP9, hD9, by decide, Or.inr ⟨rfl, fun h9 => h9.2.elim (fun e9 => by omega) (F_dc_n hf5_0 c_6)⟩⟩⟩, hS.F ht⟩) hS.2.2 dX1_comesBack_69
      · have tc_6 : r_5.toInt = (-1) := v_eq c_6
        refine lv_iconst (v := 1) hx hb dX1_comesBack_64 (by decide) ?_
        refine lv_goto (tgt := 69) hx hb dX1_comesBack_65 (by decide) ?_
        have hP9 := hP.sub (ws' := [(oW, .inr (1, [.ref oC, .ref oK, .ref nw, .ref w1, .ref w2, .ref w3, .ref o7, .ref o8, .ref o9, .ref w4, .ref w5, .ref w6, .ref w7, .int ke, .int tl, .int fsh, .int wi, .int ri, .int fm, .int lm])), (nw, .inr (5, [.ref aw, .int lw])), (aw, .inl (cI, 800, .inl fw)), (oC, .inr (2, [.ref o4, .ref o5])), (o4, .inr (10, [.ref a41, .ref a42, .ref a43, .int l4])), (a41, .inl (cI, 256, .inl f41)), (o5, .inr (10, [.ref a51, .ref a52, .ref a53, .int l5])), (a51, .inl (cI, 256, .inl f51))]) [0, 6, 7, 1, 2, 3, 4, 5] rfl
        have hD9 := hD.sub (ws' := [(oW, .inr (1, [.ref oC, .ref oK, .ref nw, .ref w1, .ref w2, .ref w3, .ref o7, .ref o8, .ref o9, .ref w4, .ref w5, .ref w6, .ref w7, .int ke, .int tl, .int fsh, .int wi, .int ri, .int fm, .int lm])), (nw, .inr (5, [.ref aw, .int lw])), (aw, .inl (cI, 800, .inl fw)), (oC, .inr (2, [.ref o4, .ref o5])), (o4, .inr (10, [.ref a41, .ref a42, .ref a43, .int l4])), (a41, .inl (cI, 256, .inl f41)), (o5, .inr (10, [.ref a51, .ref a52, .ref a53, .int l5])), (a51, .inl (cI, 256, .inl f51))]) [0, 6, 7, 1, 2, 3, 4, 5] (by decide +kernel) rfl
        rw [hQQ]
        exact W.zret (v := 1) (ty := .boolean) hx hb hr (rfl) (fun t ht hW => ⟨⟨1, 1, rfl, rfl, ⟨by rw [ht]; exact hP9, hD9, by decide, Or.inl ⟨rfl, F_dc_0 hf2_0 c_3, Or.inr (F_dc_0 hf5_0 c_6)⟩⟩⟩, hS.F ht⟩) hS.2.2 dX1_comesBack_69

end

/-! 5h.a.rows -/
section
theorem dX1_keep_0 : decode cX1_keep 0 = .ok (.aload_n 0, 1) := by decide +kernel
theorem dX1_keep_1 : decode cX1_keep 1 = .ok (.getfield 65, 3) := by decide +kernel
theorem dX1_keep_4 : decode cX1_keep 4 = .ok (.sipush 200, 3) := by decide +kernel
theorem dX1_keep_7 : decode cX1_keep 7 = .ok (.if_icmp .ne 16, 3) := by decide +kernel
theorem dX1_keep_23 : decode cX1_keep 23 = .ok (.aload_n 0, 1) := by decide +kernel
theorem dX1_keep_24 : decode cX1_keep 24 = .ok (.getfield 65, 3) := by decide +kernel
theorem dX1_keep_27 : decode cX1_keep 27 = .ok (.sipush 199, 3) := by decide +kernel
theorem dX1_keep_30 : decode cX1_keep 30 = .ok (.invokestatic 135, 3) := by decide +kernel
theorem dX1_keep_33 : decode cX1_keep 33 = .ok (.istore 5, 2) := by decide +kernel
theorem dX1_keep_35 : decode cX1_keep 35 = .ok (.aload_n 0, 1) := by decide +kernel
theorem dX1_keep_36 : decode cX1_keep 36 = .ok (.iload 5, 2) := by decide +kernel
theorem dX1_keep_38 : decode cX1_keep 38 = .ok (.iconst 1, 1) := by decide +kernel
theorem dX1_keep_39 : decode cX1_keep 39 = .ok (.iadd, 1) := by decide +kernel
theorem dX1_keep_40 : decode cX1_keep 40 = .ok (.putfield 65, 3) := by decide +kernel
theorem dX1_keep_43 : decode cX1_keep 43 = .ok (.iload 5, 2) := by decide +kernel
theorem dX1_keep_45 : decode cX1_keep 45 = .ok (.ifCond .le 86, 3) := by decide +kernel
theorem dX1_keep_131 : decode cX1_keep 131 = .ok (.aload_n 0, 1) := by decide +kernel
theorem dX1_keep_132 : decode cX1_keep 132 = .ok (.getfield 30, 3) := by decide +kernel
theorem dX1_keep_135 : decode cX1_keep 135 = .ok (.iload 5, 2) := by decide +kernel
theorem dX1_keep_137 : decode cX1_keep 137 = .ok (.iload_n 1, 1) := by decide +kernel
theorem dX1_keep_138 : decode cX1_keep 138 = .ok (.iconst (-1), 1) := by decide +kernel
theorem dX1_keep_139 : decode cX1_keep 139 = .ok (.if_icmp .ne 7, 3) := by decide +kernel
theorem dX1_keep_146 : decode cX1_keep 146 = .ok (.iload_n 1, 1) := by decide +kernel
theorem dX1_keep_147 : decode cX1_keep 147 = .ok (.iastore, 1) := by decide +kernel
theorem dX1_keep_148 : decode cX1_keep 148 = .ok (.aload_n 0, 1) := by decide +kernel
theorem dX1_keep_149 : decode cX1_keep 149 = .ok (.getfield 33, 3) := by decide +kernel
theorem dX1_keep_152 : decode cX1_keep 152 = .ok (.iload 5, 2) := by decide +kernel
theorem dX1_keep_154 : decode cX1_keep 154 = .ok (.iload_n 1, 1) := by decide +kernel
theorem dX1_keep_155 : decode cX1_keep 155 = .ok (.iconst (-1), 1) := by decide +kernel
theorem dX1_keep_156 : decode cX1_keep 156 = .ok (.if_icmp .ne 7, 3) := by decide +kernel
theorem dX1_keep_163 : decode cX1_keep 163 = .ok (.iload_n 2, 1) := by decide +kernel
theorem dX1_keep_164 : decode cX1_keep 164 = .ok (.iastore, 1) := by decide +kernel
theorem dX1_keep_165 : decode cX1_keep 165 = .ok (.aload_n 0, 1) := by decide +kernel
theorem dX1_keep_166 : decode cX1_keep 166 = .ok (.getfield 36, 3) := by decide +kernel
theorem dX1_keep_169 : decode cX1_keep 169 = .ok (.iload 5, 2) := by decide +kernel
theorem dX1_keep_171 : decode cX1_keep 171 = .ok (.iload_n 3, 1) := by decide +kernel
theorem dX1_keep_172 : decode cX1_keep 172 = .ok (.iastore, 1) := by decide +kernel
theorem dX1_keep_173 : decode cX1_keep 173 = .ok (.aload_n 0, 1) := by decide +kernel
theorem dX1_keep_174 : decode cX1_keep 174 = .ok (.getfield 39, 3) := by decide +kernel
theorem dX1_keep_177 : decode cX1_keep 177 = .ok (.iload 5, 2) := by decide +kernel
theorem dX1_keep_179 : decode cX1_keep 179 = .ok (.iload 4, 2) := by decide +kernel
theorem dX1_keep_181 : decode cX1_keep 181 = .ok (.iastore, 1) := by decide +kernel
theorem dX1_keep_182 : decode cX1_keep 182 = .ok (.return_, 1) := by decide +kernel
theorem dX1_keep_142 : decode cX1_keep 142 = .ok (.iload_n 2, 1) := by decide +kernel
theorem dX1_keep_143 : decode cX1_keep 143 = .ok (.goto 4, 3) := by decide +kernel
theorem dX1_keep_159 : decode cX1_keep 159 = .ok (.iconst (-1), 1) := by decide +kernel
theorem dX1_keep_160 : decode cX1_keep 160 = .ok (.goto 4, 3) := by decide +kernel
theorem dX1_keep_48 : decode cX1_keep 48 = .ok (.aload_n 0, 1) := by decide +kernel
theorem dX1_keep_49 : decode cX1_keep 49 = .ok (.getfield 36, 3) := by decide +kernel
theorem dX1_keep_52 : decode cX1_keep 52 = .ok (.iload 5, 2) := by decide +kernel
theorem dX1_keep_54 : decode cX1_keep 54 = .ok (.iconst 1, 1) := by decide +kernel
theorem dX1_keep_55 : decode cX1_keep 55 = .ok (.isub, 1) := by decide +kernel
theorem dX1_keep_56 : decode cX1_keep 56 = .ok (.iaload, 1) := by decide +kernel
theorem dX1_keep_57 : decode cX1_keep 57 = .ok (.iload_n 3, 1) := by decide +kernel
theorem dX1_keep_58 : decode cX1_keep 58 = .ok (.if_icmp .le 73, 3) := by decide +kernel
theorem dX1_keep_61 : decode cX1_keep 61 = .ok (.aload_n 0, 1) := by decide +kernel
theorem dX1_keep_62 : decode cX1_keep 62 = .ok (.getfield 30, 3) := by decide +kernel
theorem dX1_keep_65 : decode cX1_keep 65 = .ok (.iload 5, 2) := by decide +kernel
theorem dX1_keep_67 : decode cX1_keep 67 = .ok (.aload_n 0, 1) := by decide +kernel
theorem dX1_keep_68 : decode cX1_keep 68 = .ok (.getfield 30, 3) := by decide +kernel
theorem dX1_keep_71 : decode cX1_keep 71 = .ok (.iload 5, 2) := by decide +kernel
theorem dX1_keep_73 : decode cX1_keep 73 = .ok (.iconst 1, 1) := by decide +kernel
theorem dX1_keep_74 : decode cX1_keep 74 = .ok (.isub, 1) := by decide +kernel
theorem dX1_keep_75 : decode cX1_keep 75 = .ok (.iaload, 1) := by decide +kernel
theorem dX1_keep_76 : decode cX1_keep 76 = .ok (.iastore, 1) := by decide +kernel
theorem dX1_keep_77 : decode cX1_keep 77 = .ok (.aload_n 0, 1) := by decide +kernel
theorem dX1_keep_78 : decode cX1_keep 78 = .ok (.getfield 33, 3) := by decide +kernel
theorem dX1_keep_81 : decode cX1_keep 81 = .ok (.iload 5, 2) := by decide +kernel
theorem dX1_keep_83 : decode cX1_keep 83 = .ok (.aload_n 0, 1) := by decide +kernel
theorem dX1_keep_84 : decode cX1_keep 84 = .ok (.getfield 33, 3) := by decide +kernel
theorem dX1_keep_87 : decode cX1_keep 87 = .ok (.iload 5, 2) := by decide +kernel
theorem dX1_keep_89 : decode cX1_keep 89 = .ok (.iconst 1, 1) := by decide +kernel
theorem dX1_keep_90 : decode cX1_keep 90 = .ok (.isub, 1) := by decide +kernel
theorem dX1_keep_91 : decode cX1_keep 91 = .ok (.iaload, 1) := by decide +kernel
theorem dX1_keep_92 : decode cX1_keep 92 = .ok (.iastore, 1) := by decide +kernel
theorem dX1_keep_93 : decode cX1_keep 93 = .ok (.aload_n 0, 1) := by decide +kernel
theorem dX1_keep_94 : decode cX1_keep 94 = .ok (.getfield 36, 3) := by decide +kernel
theorem dX1_keep_97 : decode cX1_keep 97 = .ok (.iload 5, 2) := by decide +kernel
theorem dX1_keep_99 : decode cX1_keep 99 = .ok (.aload_n 0, 1) := by decide +kernel
theorem dX1_keep_100 : decode cX1_keep 100 = .ok (.getfield 36, 3) := by decide +kernel
theorem dX1_keep_103 : decode cX1_keep 103 = .ok (.iload 5, 2) := by decide +kernel
theorem dX1_keep_105 : decode cX1_keep 105 = .ok (.iconst 1, 1) := by decide +kernel
theorem dX1_keep_106 : decode cX1_keep 106 = .ok (.isub, 1) := by decide +kernel
theorem dX1_keep_107 : decode cX1_keep 107 = .ok (.iaload, 1) := by decide +kernel
theorem dX1_keep_108 : decode cX1_keep 108 = .ok (.iastore, 1) := by decide +kernel
theorem dX1_keep_109 : decode cX1_keep 109 = .ok (.aload_n 0, 1) := by decide +kernel
theorem dX1_keep_110 : decode cX1_keep 110 = .ok (.getfield 39, 3) := by decide +kernel
theorem dX1_keep_113 : decode cX1_keep 113 = .ok (.iload 5, 2) := by decide +kernel
theorem dX1_keep_115 : decode cX1_keep 115 = .ok (.aload_n 0, 1) := by decide +kernel
theorem dX1_keep_116 : decode cX1_keep 116 = .ok (.getfield 39, 3) := by decide +kernel
theorem dX1_keep_119 : decode cX1_keep 119 = .ok (.iload 5, 2) := by decide +kernel
theorem dX1_keep_121 : decode cX1_keep 121 = .ok (.iconst 1, 1) := by decide +kernel
theorem dX1_keep_122 : decode cX1_keep 122 = .ok (.isub, 1) := by decide +kernel
theorem dX1_keep_123 : decode cX1_keep 123 = .ok (.iaload, 1) := by decide +kernel
theorem dX1_keep_124 : decode cX1_keep 124 = .ok (.iastore, 1) := by decide +kernel
theorem dX1_keep_125 : decode cX1_keep 125 = .ok (.iinc 5 (-1), 3) := by decide +kernel
theorem dX1_keep_128 : decode cX1_keep 128 = .ok (.goto (-85), 3) := by decide +kernel
theorem dX1_keep_10 : decode cX1_keep 10 = .ok (.iload_n 3, 1) := by decide +kernel
theorem dX1_keep_11 : decode cX1_keep 11 = .ok (.aload_n 0, 1) := by decide +kernel
theorem dX1_keep_12 : decode cX1_keep 12 = .ok (.getfield 36, 3) := by decide +kernel
theorem dX1_keep_15 : decode cX1_keep 15 = .ok (.sipush 199, 3) := by decide +kernel
theorem dX1_keep_18 : decode cX1_keep 18 = .ok (.iaload, 1) := by decide +kernel
theorem dX1_keep_19 : decode cX1_keep 19 = .ok (.if_icmp .lt 4, 3) := by decide +kernel
theorem dX1_keep_22 : decode cX1_keep 22 = .ok (.return_, 1) := by decide +kernel

end

/-! 5h.chs -/
section
theorem KPL_s4 {W4 W5 W6 W7 G4 G5 G6 G7 H4 H5 H6 H7 : Nat → Int32} {pl pl' a0 a1 a2 a3 x y z u : Int32} {hi : Int} (h : KPL W4 W5 W6 W7 G4 G5 G6 G7 pl.toInt hi) (h0 : 1 ≤ pl.toInt) (ha0 : a0.toInt = pl.toInt - 1) (ha1 : a1.toInt = pl.toInt - 1) (ha2 : a2.toInt = pl.toInt - 1) (ha3 : a3.toInt = pl.toInt - 1) (e4 : x = G4 a0.toNatClampNeg) (e5 : y = G5 a1.toNatClampNeg) (e6 : z = G6 a2.toNatClampNeg) (e7 : u = G7 a3.toNatClampNeg) (g4 : H4 = upd G4 pl.toNatClampNeg x) (g5 : H5 = upd G5 pl.toNatClampNeg y) (g6 : H6 = upd G6 pl.toNatClampNeg z) (g7 : H7 = upd G7 pl.toNatClampNeg u) (hp : pl'.toInt = pl.toInt - 1) : KPL W4 W5 W6 W7 H4 H5 H6 H7 pl'.toInt hi := by
  have q1 : a1 = a0 := v_inj (by omega)
  have q2 : a2 = a0 := v_inj (by omega)
  have q3 : a3 = a0 := v_inj (by omega)
  subst q1
  subst q2
  subst q3
  exact KPL_s h h0 ha0 e4 e5 e6 e7 g4 g5 g6 g7 hp
theorem kp_big {W4 W5 W6 W7 G4 G5 G6 G7 : Nat → Int32} {pl pl' a q : Int32} {k0 : Nat} {hi s : Int} (h : KPL W4 W5 W6 W7 G4 G5 G6 G7 pl.toInt hi) (hb : ∀ i : Nat, pl.toInt ≤ i → i < k0 → s < CA W4 W5 W6 W7 i 2) (ha : a.toInt = pl.toInt - 1) (h1 : 1 ≤ pl.toInt) (eq : q = G6 a.toNatClampNeg) (hq : s < q.toInt) (hp : pl'.toInt = pl.toInt - 1) : ∀ i : Nat, pl'.toInt ≤ i → i < k0 → s < CA W4 W5 W6 W7 i 2 := by
  intro i i1 i2
  have ca := v_clamp (x := a) (by omega)
  by_cases w : i = a.toNatClampNeg
  · rw [w, ← (h a.toNatClampNeg).1 2 (by omega) (by omega)]
    show s < (G6 a.toNatClampNeg).toInt
    rw [← eq]; exact hq
  · exact hb i (by omega) i2

theorem kp_id {k k0 k1 : Nat} {B A : Nat → Nat → Int} {e : Nat → Int} (h : INSk k k B e A) (e0 : k = k0 ∧ k = k1) : INSk k0 k1 B e A := by
  obtain ⟨q1, q2⟩ := e0
  subst q1
  subst q2
  exact h

theorem kp_b0 {W4 W5 W6 W7 : Nat → Int32} {pl ke q : Int32} {s : Int} {j : Nat} (hk : (pl.toInt = ke.toInt ∧ 0 ≤ ke.toInt) ∨ (ke.toInt = 200 ∧ pl.toInt = 199)) (eq : q = W6 j) (h : (ke.toInt < 200) ∨ (ke.toInt = 200 ∧ j = 199 ∧ s < q.toInt)) : ∀ i : Nat, pl.toInt ≤ i → i < ke.toNatClampNeg → s < CA W4 W5 W6 W7 i 2 := by
  intro i i1 i2
  have c := v_clamp (x := ke) (by omega)
  rcases h with h | ⟨h1, h2, h3⟩
  · omega
  · have e : i = 199 := by omega
    rw [e, ← h2]
    show s < (W6 j).toInt
    rw [← eq]; exact h3

set_option maxHeartbeats 40000000 in
set_option maxRecDepth 100000 in
theorem f_X1_keep (l : Launch) (dC : Nat → ClassId) (dI : Nat → Nat → Nat) (cI cS : ClassId) (sz : Nat) (oW : Nat) (oC : Nat) (oK : Nat) (nw : Nat) (w1 : Nat) (w2 : Nat) (w3 : Nat) (o7 : Nat) (o8 : Nat) (o9 : Nat) (w4 : Nat) (w5 : Nat) (w6 : Nat) (w7 : Nat) (ke : Int32) (tl : Int32) (fsh : Int32) (wi : Int32) (ri : Int32) (fm : Int32) (lm : Int32) (fW4 : Nat → Int32) (fW5 : Nat → Int32) (fW6 : Nat → Int32) (fW7 : Nat → Int32) (a : Int32) (b : Int32) (sm : Int32) (ls_ : Int32) (g_ke : 0 ≤ ke.toInt ∧ ke.toInt ≤ 200) (g_fsh : 0 ≤ fsh.toInt ∧ fsh.toInt ≤ 1) (g_fm : -1 ≤ fm.toInt ∧ fm.toInt ≤ 800) (g_lm : -1 ≤ lm.toInt ∧ lm.toInt ≤ 800) (hsr : srtA ke.toNatClampNeg (CA fW4 fW5 fW6 fW7)) : Met l yX1_keep wsX1_keep ({ frames := 1, cells := 0, slots := 0, locals := 21 } : Room) (va_Pc [.ref oW, .int a, .int b, .int sm, .int ls_] (fun U => U.heap.size = sz ∧ va_P (dC, dI) vwCl [(oW, .inr (1, [.ref oC, .ref oK, .ref nw, .ref w1, .ref w2, .ref w3, .ref o7, .ref o8, .ref o9, .ref w4, .ref w5, .ref w6, .ref w7, .int ke, .int tl, .int fsh, .int wi, .int ri, .int fm, .int lm])), (w4, .inl (cI, 200, .inl fW4)), (w5, .inl (cI, 200, .inl fW5)), (w6, .inl (cI, 200, .inl fW6)), (w7, .inl (cI, 200, .inl fW7))] U.heap ∧ va_K (dC, dI) vwCl [(cI, .int), (cS, .short)] U ∧ va_D (fun _ => True) [(oW, .inr (1, [.ref oC, .ref oK, .ref nw, .ref w1, .ref w2, .ref w3, .ref o7, .ref o8, .ref o9, .ref w4, .ref w5, .ref w6, .ref w7, .int ke, .int tl, .int fsh, .int wi, .int ri, .int fm, .int lm])), (w4, .inl (cI, 200, .inl fW4)), (w5, .inl (cI, 200, .inl fW5)), (w6, .inl (cI, 200, .inl fW6)), (w7, .inl (cI, 200, .inl fW7))])) (va_Qv (fun (_ : Unit) => True) (fun _ t => ∃ (ke' : Int32) (fW4' : Nat → Int32) (fW5' : Nat → Int32) (fW6' : Nat → Int32) (fW7' : Nat → Int32), va_P (dC, dI) vwCl [(oW, .inr (1, [.ref oC, .ref oK, .ref nw, .ref w1, .ref w2, .ref w3, .ref o7, .ref o8, .ref o9, .ref w4, .ref w5, .ref w6, .ref w7, .int ke', .int tl, .int fsh, .int wi, .int ri, .int fm, .int lm])), (w4, .inl (cI, 200, .inl fW4')), (w5, .inl (cI, 200, .inl fW5')), (w6, .inl (cI, 200, .inl fW6')), (w7, .inl (cI, 200, .inl fW7'))] t.heap ∧ va_D (va_A [(oW, .inr (1, [.ref oC, .ref oK, .ref nw, .ref w1, .ref w2, .ref w3, .ref o7, .ref o8, .ref o9, .ref w4, .ref w5, .ref w6, .ref w7, .int ke, .int tl, .int fsh, .int wi, .int ri, .int fm, .int lm])), (w4, .inl (cI, 200, .inl fW4)), (w5, .inl (cI, 200, .inl fW5)), (w6, .inl (cI, 200, .inl fW6)), (w7, .inl (cI, 200, .inl fW7))] sz) [(oW, .inr (1, [.ref oC, .ref oK, .ref nw, .ref w1, .ref w2, .ref w3, .ref o7, .ref o8, .ref o9, .ref w4, .ref w5, .ref w6, .ref w7, .int ke', .int tl, .int fsh, .int wi, .int ri, .int fm, .int lm])), (w4, .inl (cI, 200, .inl fW4')), (w5, .inl (cI, 200, .inl fW5')), (w6, .inl (cI, 200, .inl fW6')), (w7, .inl (cI, 200, .inl fW7'))] ∧ (0 ≤ ke'.toInt ∧ ke'.toInt ≤ 200) ∧ ((ke.toInt < 200 ∧ ke'.toInt = ke.toInt + 1) ∨ (ke.toInt = 200 ∧ ke'.toInt = 200)) ∧ (INSk ke.toNatClampNeg ke'.toNatClampNeg (CA fW4 fW5 fW6 fW7) (ent a.toInt b.toInt sm.toInt ls_.toInt) (CA fW4' fW5' fW6' fW7'))) (va_A [(oW, .inr (1, [.ref oC, .ref oK, .ref nw, .ref w1, .ref w2, .ref w3, .ref o7, .ref o8, .ref o9, .ref w4, .ref w5, .ref w6, .ref w7, .int ke, .int tl, .int fsh, .int wi, .int ri, .int fm, .int lm])), (w4, .inl (cI, 200, .inl fW4)), (w5, .inl (cI, 200, .inl fW5)), (w6, .inl (cI, 200, .inl fW6)), (w7, .inl (cI, 200, .inl fW7))] sz)) 0 0 (va_A [(oW, .inr (1, [.ref oC, .ref oK, .ref nw, .ref w1, .ref w2, .ref w3, .ref o7, .ref o8, .ref o9, .ref w4, .ref w5, .ref w6, .ref w7, .int ke, .int tl, .int fsh, .int wi, .int ri, .int fm, .int lm])), (w4, .inl (cI, 200, .inl fW4)), (w5, .inl (cI, 200, .inl fW5)), (w6, .inl (cI, 200, .inl fW6)), (w7, .inl (cI, 200, .inl fW7))] sz) := by
  refine Met.ofW (cc := cX1_keep) (maxL := 6) (ret := none) (by decide) rfl ?_
  intro p e s m args below meth c s₁ B hml hv
  obtain ⟨rfl, hsz, hP, hK, hD0⟩ := hv
  have hx := B.exec
  have hb := B.bytes
  have hr := B.returns
  have hts := atoms_spec (ws := wsX1_keep) B.pre
  have hown : s.vm.findClass RX1 = some m.cls := findClass_of_methodNamed B.named
  have hlocks := B.notSynchronized
  have in_X1 : ∀ w ∈ wsX10, w ∈ wsX1_keep := fun _ h => List.mem_cons_of_mem _ (List.mem_append_right _ (h))
  subst hsz
  have hD := hD0.self (sz := s.heap.size)
  generalize hAe : va_A [(oW, .inr (1, [.ref oC, .ref oK, .ref nw, .ref w1, .ref w2, .ref w3, .ref o7, .ref o8, .ref o9, .ref w4, .ref w5, .ref w6, .ref w7, .int ke, .int tl, .int fsh, .int wi, .int ri, .int fm, .int lm])), (w4, .inl (cI, 200, .inl fW4)), (w5, .inl (cI, 200, .inl fW5)), (w6, .inl (cI, 200, .inl fW6)), (w7, .inl (cI, 200, .inl fW7))] s.heap.size = A at hD ⊢
  have hA : ∀ q : Nat, s.heap.size ≤ q → A q := fun q h => by rw [← hAe]; exact Or.inr h
  have hS : va_S A s.heap s.heap [] := va_S.rf
  have hP : va_P (dC, dI) vwCl [(oW, .inr (1, [.ref oC, .ref oK, .ref nw, .ref w1, .ref w2, .ref w3, .ref o7, .ref o8, .ref o9, .ref w4, .ref w5, .ref w6, .ref w7, .int ke, .int tl, .int fsh, .int wi, .int ri, .int fm, .int lm])), (w4, .inl (cI, 200, .inl fW4)), (w5, .inl (cI, 200, .inl fW5)), (w6, .inl (cI, 200, .inl fW6)), (w7, .inl (cI, 200, .inl fW7))] s.heap := hP
  have hl := lv_entry ([.ref oW, .int a, .int b, .int sm, .int ls_]) (n := 6) (Nat.le_of_ble_eq_true rfl)
  rw [lg_entry_eq]
  generalize (lg_sl ([.ref oW, .int a, .int b, .int sm, .int ls_]) ++ List.replicate (6 - (lg_sl ([.ref oW, .int a, .int b, .int sm, .int ls_])).length) Slot.unset).toArray = ls at hl ⊢
  have hl : lv_has ls 6 [(0, .ref oW), (1, .int a), (2, .int b), (3, .int sm), (4, .int ls_)] := hl
  obtain ⟨QQ, hQQ⟩ : ∃ QQ : Array Value → State → Outcome → State → Prop, QQ = va_Qv (fun (_ : Unit) => True) (fun _ t => ∃ (ke' : Int32) (fW4' : Nat → Int32) (fW5' : Nat → Int32) (fW6' : Nat → Int32) (fW7' : Nat → Int32), va_P (dC, dI) vwCl [(oW, .inr (1, [.ref oC, .ref oK, .ref nw, .ref w1, .ref w2, .ref w3, .ref o7, .ref o8, .ref o9, .ref w4, .ref w5, .ref w6, .ref w7, .int ke', .int tl, .int fsh, .int wi, .int ri, .int fm, .int lm])), (w4, .inl (cI, 200, .inl fW4')), (w5, .inl (cI, 200, .inl fW5')), (w6, .inl (cI, 200, .inl fW6')), (w7, .inl (cI, 200, .inl fW7'))] t.heap ∧ va_D A [(oW, .inr (1, [.ref oC, .ref oK, .ref nw, .ref w1, .ref w2, .ref w3, .ref o7, .ref o8, .ref o9, .ref w4, .ref w5, .ref w6, .ref w7, .int ke', .int tl, .int fsh, .int wi, .int ri, .int fm, .int lm])), (w4, .inl (cI, 200, .inl fW4')), (w5, .inl (cI, 200, .inl fW5')), (w6, .inl (cI, 200, .inl fW6')), (w7, .inl (cI, 200, .inl fW7'))] ∧ (0 ≤ ke'.toInt ∧ ke'.toInt ≤ 200) ∧ ((ke.toInt < 200 ∧ ke'.toInt = ke.toInt + 1) ∨ (ke.toInt = 200 ∧ ke'.toInt = 200)) ∧ (INSk ke.toNatClampNeg ke'.toNatClampNeg (CA fW4 fW5 fW6 fW7) (ent a.toInt b.toInt sm.toInt ls_.toInt) (CA fW4' fW5' fW6' fW7'))) A := ⟨_, rfl⟩
  rw [← hQQ]
  have z0 : (0 : Int32).toInt = 0 := rfl
  have z1 : (1 : Int32).toInt = 1 := rfl
  have zm1 : (-1 : Int32).toInt = -1 := rfl
  have ck9 := v_clamp (x := ke) (by omega)
  have z199 : Int32.toNatClampNeg 199 = 199 := rfl
  refine lv_aload_n hx hb dX1_keep_0 rfl (lv_at hl 0 rfl) ?_
  refine va_get (D := (dC, dI)) (ci := 1) (v := .int ke) (C := RX1) (T := TX1) (N := 20) hx hb hts in_X1 hown hK hP 0 rfl rfl 13 (by decide) (hts (.fieldLink RX1 65 "TextMender$Choices" "kept" "I") (List.mem_of_getElem? (i := 1) rfl)) (fun _ h9 => h9) rfl dX1_keep_1 ?_
  refine lv_sipush (v := 200) hx hb dX1_keep_4 (by decide) ?_
  refine lv_icmp_ne (tgt := 23) hx hb dX1_keep_7 (by decide) (fun c_1 => ?_) (fun c_1 => ?_)
  · have tc_1 : ¬ ke.toInt = 200 := v_ne c_1
    refine lv_aload_n hx hb dX1_keep_23 rfl (lv_at hl 0 rfl) ?_
    refine va_get (D := (dC, dI)) (ci := 1) (v := .int ke) (C := RX1) (T := TX1) (N := 20) hx hb hts in_X1 hown hK hP 0 rfl rfl 13 (by decide) (hts (.fieldLink RX1 65 "TextMender$Choices" "kept" "I") (List.mem_of_getElem? (i := 1) rfl)) (fun _ h9 => h9) rfl dX1_keep_24 ?_
    refine lv_sipush (v := 199) hx hb dX1_keep_27 (by decide) ?_
    refine va_mmin hx hb (by rw [hml]; exact hl.1.symm) hown (hts (.methodLink RX1 135 Lib.Math.min.name) (List.mem_of_getElem? (i := 3) rfl)) (hts (.static Lib.Math.min.name) (List.mem_of_getElem? (i := 4) rfl)) (hts (.initialized "java/lang/Math") (List.mem_of_getElem? (i := 5) rfl)) (hts (.code Lib.Math.min.name Lib.Math.min.code 2 (some .int)) (List.mem_of_getElem? (i := 6) rfl)) (Nat.le_of_ble_eq_true rfl) (Nat.le_of_ble_eq_true rfl) (Nat.zero_le _) (Nat.zero_le _) dX1_keep_30 ?_
    refine lv_topi (fun x_2 ex_2 => ?_)
    have tx_2 : x_2.toInt ≤ ke.toInt ∧ x_2.toInt ≤ 199 ∧ (x_2.toInt = ke.toInt ∨ x_2.toInt = 199) := v_min ex_2
    refine lv_istore (lv' := [(5, .int x_2), (0, .ref oW), (1, .int a), (2, .int b), (3, .int sm), (4, .int ls_)]) hx hb dX1_keep_33 hl (by decide) rfl (fun ls hl => ?_)
    refine lv_aload_n hx hb dX1_keep_35 rfl (lv_at hl 1 rfl) ?_
    refine lv_iload hx hb dX1_keep_36 (lv_at hl 0 rfl) ?_
    refine lv_iconst (v := 1) hx hb dX1_keep_38 (by decide) ?_
    refine lv_iadd hx hb dX1_keep_39 ?_
    refine lv_topi (fun x_3 ex_3 => ?_)
    have tx_3 : x_3.toInt = x_2.toInt + 1 := v_add ex_3 (by show -2147483648 ≤ x_2.toInt + 1; omega) (by show x_2.toInt + 1 < 2147483648; omega)
    refine va_put (D := (dC, dI)) (ci := 1) (v := .int x_3) (ty := .int) (C := RX1) (T := TX1) (N := 20) hx hb hts in_X1 tyX1 tyX1_ok nmX1 hown hK hP hD hS 0 rfl rfl 13 (by decide) (hts (.fieldLink RX1 65 "TextMender$Choices" "kept" "I") (List.mem_of_getElem? (i := 1) rfl)) (fun _ h9 => h9) rfl (by decide +kernel) rfl rfl (Nat.le_of_ble_eq_true rfl) dX1_keep_40 (fun H locs hPn hDn hSn => ?_)
    clear hP hD hS
    have hP : va_P (dC, dI) vwCl [(oW, .inr (1, [.ref oC, .ref oK, .ref nw, .ref w1, .ref w2, .ref w3, .ref o7, .ref o8, .ref o9, .ref w4, .ref w5, .ref w6, .ref w7, .int x_3, .int tl, .int fsh, .int wi, .int ri, .int fm, .int lm])), (w4, .inl (cI, 200, .inl fW4)), (w5, .inl (cI, 200, .inl fW5)), (w6, .inl (cI, 200, .inl fW6)), (w7, .inl (cI, 200, .inl fW7))] H := hPn
    have hD : va_D A [(oW, .inr (1, [.ref oC, .ref oK, .ref nw, .ref w1, .ref w2, .ref w3, .ref o7, .ref o8, .ref o9, .ref w4, .ref w5, .ref w6, .ref w7, .int x_3, .int tl, .int fsh, .int wi, .int ri, .int fm, .int lm])), (w4, .inl (cI, 200, .inl fW4)), (w5, .inl (cI, 200, .inl fW5)), (w6, .inl (cI, 200, .inl fW6)), (w7, .inl (cI, 200, .inl fW7))] := hDn
    have hS := hSn
    clear hPn hDn hSn
    have LOOP_43 : ∀ (k_43 : Nat) (pl : Int32) (fd_ : Nat → Int32) (fe_ : Nat → Int32) (ff_ : Nat → Int32) (fg_ : Nat → Int32) (H : Heap) (locs : List Loc) (ls : Array Slot), MSd (pl.toInt : Int) k_43 → (0 ≤ pl.toInt ∧ pl.toInt ≤ 199) → (pl.toInt ≤ ke.toInt) → (KPL fW4 fW5 fW6 fW7 fd_ fe_ ff_ fg_ pl.toInt (x_2.toInt)) → (∀ i : Nat, pl.toInt ≤ i → i < ke.toNatClampNeg → sm.toInt < CA fW4 fW5 fW6 fW7 i 2) → va_P (dC, dI) vwCl [(oW, .inr (1, [.ref oC, .ref oK, .ref nw, .ref w1, .ref w2, .ref w3, .ref o7, .ref o8, .ref o9, .ref w4, .ref w5, .ref w6, .ref w7, .int x_3, .int tl, .int fsh, .int wi, .int ri, .int fm, .int lm])), (w4, .inl (cI, 200, .inl fd_)), (w5, .inl (cI, 200, .inl fe_)), (w6, .inl (cI, 200, .inl ff_)), (w7, .inl (cI, 200, .inl fg_))] H → va_D A [(oW, .inr (1, [.ref oC, .ref oK, .ref nw, .ref w1, .ref w2, .ref w3, .ref o7, .ref o8, .ref o9, .ref w4, .ref w5, .ref w6, .ref w7, .int x_3, .int tl, .int fsh, .int wi, .int ri, .int fm, .int lm])), (w4, .inl (cI, 200, .inl fd_)), (w5, .inl (cI, 200, .inl fe_)), (w6, .inl (cI, 200, .inl ff_)), (w7, .inl (cI, 200, .inl fg_))] → va_S A s.heap H locs → lv_has ls 6 [(5, .int pl), (0, .ref oW), (1, .int a), (2, .int b), (3, .int sm), (4, .int ls_)] → W p l e (headSpec wsX1_keep ({ frames := 1, cells := 0, slots := 0, locals := 21 } : Room)).room s m ([.ref oW, .int a, .int b, .int sm, .int ls_] : List Value).toArray below meth c H locs 0 0 (MQ below QQ ([.ref oW, .int a, .int b, .int sm, .int ls_] : List Value).toArray s 0 0 A) (F0 m 43 ls []) := by
      clear hP hD hS hl
      intro k_43
      induction k_43 with
      | zero =>
        intro pl fd_ fe_ ff_ fg_ H locs ls hm_43 g_pl hpk hkp hbg hP hD hS hl
        exact ms_0 hm_43
      | succ k_43 ih_43 =>
        intro pl fd_ fe_ ff_ fg_ H locs ls hm_43 g_pl hpk hkp hbg hP hD hS hl
        refine lv_iload hx hb dX1_keep_43 (lv_at hl 0 rfl) ?_
        refine lv_if_le (tgt := 131) hx hb dX1_keep_45 (by decide) (fun c_4 => ?_) (fun c_4 => ?_)
        · have tc_4 : pl.toInt ≤ 0 := v_le c_4
          refine lv_aload_n hx hb dX1_keep_131 rfl (lv_at hl 1 rfl) ?_
          refine va_get (D := (dC, dI)) (ci := 1) (v := .ref w4) (C := RX1) (T := TX1) (N := 20) hx hb hts in_X1 hown hK hP 0 rfl rfl 9 (by decide) (hts (.fieldLink RX1 30 "TextMender$Choices" "firstByte" "[I") (List.mem_of_getElem? (i := 7) rfl)) (fun _ h9 => h9) rfl dX1_keep_132 ?_
          refine lv_iload hx hb dX1_keep_135 (lv_at hl 0 rfl) ?_
          refine lv_iload_n hx hb dX1_keep_137 rfl (lv_at hl 2 rfl) ?_
          refine lv_iconst (v := (-1)) hx hb dX1_keep_138 (by decide) ?_
          refine lv_icmp_ne (tgt := 146) hx hb dX1_keep_139 (by decide) (fun c_5 => ?_) (fun c_5 => ?_)
          · have tc_5 : ¬ a.toInt = (-1) := v_ne c_5
            refine lv_iload_n hx hb dX1_keep_146 rfl (lv_at hl 2 rfl) ?_
            refine va_iast hx hb hK hP hD hS 1 0 rfl rfl (v_in (by omega)) dX1_keep_147 (fun H locs hPn hDn hSn => ?_)
            clear hP hD hS
            have hP : va_P (dC, dI) vwCl [(oW, .inr (1, [.ref oC, .ref oK, .ref nw, .ref w1, .ref w2, .ref w3, .ref o7, .ref o8, .ref o9, .ref w4, .ref w5, .ref w6, .ref w7, .int x_3, .int tl, .int fsh, .int wi, .int ri, .int fm, .int lm])), (w4, .inl (cI, 200, .inl (upd fd_ (pl : Int32).toNatClampNeg a))), (w5, .inl (cI, 200, .inl fe_)), (w6, .inl (cI, 200, .inl ff_)), (w7, .inl (cI, 200, .inl fg_))] H := hPn
            have hD : va_D A [(oW, .inr (1, [.ref oC, .ref oK, .ref nw, .ref w1, .ref w2, .ref w3, .ref o7, .ref o8, .ref o9, .ref w4, .ref w5, .ref w6, .ref w7, .int x_3, .int tl, .int fsh, .int wi, .int ri, .int fm, .int lm])), (w4, .inl (cI, 200, .inl (upd fd_ (pl : Int32).toNatClampNeg a))), (w5, .inl (cI, 200, .inl fe_)), (w6, .inl (cI, 200, .inl ff_)), (w7, .inl (cI, 200, .inl fg_))] := hDn
            have hS := hSn
            clear hPn hDn hSn
            obtain ⟨f_6, ef_6⟩ : ∃ g : Nat → Int32, g = upd fd_ (pl : Int32).toNatClampNeg a := ⟨_, rfl⟩
            rw [← ef_6] at hP hD
            refine lv_aload_n hx hb dX1_keep_148 rfl (lv_at hl 1 rfl) ?_
            refine va_get (D := (dC, dI)) (ci := 1) (v := .ref w5) (C := RX1) (T := TX1) (N := 20) hx hb hts in_X1 hown hK hP 0 rfl rfl 10 (by decide) (hts (.fieldLink RX1 33 "TextMender$Choices" "secondByte" "[I") (List.mem_of_getElem? (i := 8) rfl)) (fun _ h9 => h9) rfl dX1_keep_149 ?_
            refine lv_iload hx hb dX1_keep_152 (lv_at hl 0 rfl) ?_
            refine lv_iload_n hx hb dX1_keep_154 rfl (lv_at hl 2 rfl) ?_
            refine lv_iconst (v := (-1)) hx hb dX1_keep_155 (by decide) ?_
            refine lv_icmp_ne (tgt := 163) hx hb dX1_keep_156 (by decide) (fun c_7 => ?_) (fun c_7 => by exfalso; have tc_7 : a.toInt = (-1) := v_eq c_7; omega)
            have tc_7 : ¬ a.toInt = (-1) := v_ne c_7
            refine lv_iload_n hx hb dX1_keep_163 rfl (lv_at hl 3 rfl) ?_
            refine va_iast hx hb hK hP hD hS 2 0 rfl rfl (v_in (by omega)) dX1_keep_164 (fun H locs hPn hDn hSn => ?_)
            clear hP hD hS
            have hP : va_P (dC, dI) vwCl [(oW, .inr (1, [.ref oC, .ref oK, .ref nw, .ref w1, .ref w2, .ref w3, .ref o7, .ref o8, .ref o9, .ref w4, .ref w5, .ref w6, .ref w7, .int x_3, .int tl, .int fsh, .int wi, .int ri, .int fm, .int lm])), (w4, .inl (cI, 200, .inl f_6)), (w5, .inl (cI, 200, .inl (upd fe_ (pl : Int32).toNatClampNeg b))), (w6, .inl (cI, 200, .inl ff_)), (w7, .inl (cI, 200, .inl fg_))] H := hPn
            have hD : va_D A [(oW, .inr (1, [.ref oC, .ref oK, .ref nw, .ref w1, .ref w2, .ref w3, .ref o7, .ref o8, .ref o9, .ref w4, .ref w5, .ref w6, .ref w7, .int x_3, .int tl, .int fsh, .int wi, .int ri, .int fm, .int lm])), (w4, .inl (cI, 200, .inl f_6)), (w5, .inl (cI, 200, .inl (upd fe_ (pl : Int32).toNatClampNeg b))), (w6, .inl (cI, 200, .inl ff_)), (w7, .inl (cI, 200, .inl fg_))] := hDn
            have hS := hSn
            clear hPn hDn hSn
            obtain ⟨f_8, ef_8⟩ : ∃ g : Nat → Int32, g = upd fe_ (pl : Int32).toNatClampNeg b := ⟨_, rfl⟩
            rw [← ef_8] at hP hD
            refine lv_aload_n hx hb dX1_keep_165 rfl (lv_at hl 1 rfl) ?_
            refine va_get (D := (dC, dI)) (ci := 1) (v := .ref w6) (C := RX1) (T := TX1) (N := 20) hx hb hts in_X1 hown hK hP 0 rfl rfl 11 (by decide) (hts (.fieldLink RX1 36 "TextMender$Choices" "costOf" "[I") (List.mem_of_getElem? (i := 2) rfl)) (fun _ h9 => h9) rfl dX1_keep_166 ?_
            refine lv_iload hx hb dX1_keep_169 (lv_at hl 0 rfl) ?_
            refine lv_iload_n hx hb dX1_keep_171 rfl (lv_at hl 4 rfl) ?_
            refine va_iast hx hb hK hP hD hS 3 0 rfl rfl (v_in (by omega)) dX1_keep_172 (fun H locs hPn hDn hSn => ?_)
            clear hP hD hS
            have hP : va_P (dC, dI) vwCl [(oW, .inr (1, [.ref oC, .ref oK, .ref nw, .ref w1, .ref w2, .ref w3, .ref o7, .ref o8, .ref o9, .ref w4, .ref w5, .ref w6, .ref w7, .int x_3, .int tl, .int fsh, .int wi, .int ri, .int fm, .int lm])), (w4, .inl (cI, 200, .inl f_6)), (w5, .inl (cI, 200, .inl f_8)), (w6, .inl (cI, 200, .inl (upd ff_ (pl : Int32).toNatClampNeg sm))), (w7, .inl (cI, 200, .inl fg_))] H := hPn
            have hD : va_D A [(oW, .inr (1, [.ref oC, .ref oK, .ref nw, .ref w1, .ref w2, .ref w3, .ref o7, .ref o8, .ref o9, .ref w4, .ref w5, .ref w6, .ref w7, .int x_3, .int tl, .int fsh, .int wi, .int ri, .int fm, .int lm])), (w4, .inl (cI, 200, .inl f_6)), (w5, .inl (cI, 200, .inl f_8)), (w6, .inl (cI, 200, .inl (upd ff_ (pl : Int32).toNatClampNeg sm))), (w7, .inl (cI, 200, .inl fg_))] := hDn
            have hS := hSn
            clear hPn hDn hSn
            obtain ⟨f_9, ef_9⟩ : ∃ g : Nat → Int32, g = upd ff_ (pl : Int32).toNatClampNeg sm := ⟨_, rfl⟩
            rw [← ef_9] at hP hD
            refine lv_aload_n hx hb dX1_keep_173 rfl (lv_at hl 1 rfl) ?_
            refine va_get (D := (dC, dI)) (ci := 1) (v := .ref w7) (C := RX1) (T := TX1) (N := 20) hx hb hts in_X1 hown hK hP 0 rfl rfl 12 (by decide) (hts (.fieldLink RX1 39 "TextMender$Choices" "lengthOf" "[I") (List.mem_of_getElem? (i := 9) rfl)) (fun _ h9 => h9) rfl dX1_keep_174 ?_
            refine lv_iload hx hb dX1_keep_177 (lv_at hl 0 rfl) ?_
            refine lv_iload hx hb dX1_keep_179 (lv_at hl 5 rfl) ?_
            refine va_iast hx hb hK hP hD hS 4 0 rfl rfl (v_in (by omega)) dX1_keep_181 (fun H locs hPn hDn hSn => ?_)
            clear hP hD hS
            have hP : va_P (dC, dI) vwCl [(oW, .inr (1, [.ref oC, .ref oK, .ref nw, .ref w1, .ref w2, .ref w3, .ref o7, .ref o8, .ref o9, .ref w4, .ref w5, .ref w6, .ref w7, .int x_3, .int tl, .int fsh, .int wi, .int ri, .int fm, .int lm])), (w4, .inl (cI, 200, .inl f_6)), (w5, .inl (cI, 200, .inl f_8)), (w6, .inl (cI, 200, .inl f_9)), (w7, .inl (cI, 200, .inl (upd fg_ (pl : Int32).toNatClampNeg ls_)))] H := hPn
            have hD : va_D A [(oW, .inr (1, [.ref oC, .ref oK, .ref nw, .ref w1, .ref w2, .ref w3, .ref o7, .ref o8, .ref o9, .ref w4, .ref w5, .ref w6, .ref w7, .int x_3, .int tl, .int fsh, .int wi, .int ri, .int fm, .int lm])), (w4, .inl (cI, 200, .inl f_6)), (w5, .inl (cI, 200, .inl f_8)), (w6, .inl (cI, 200, .inl f_9)), (w7, .inl (cI, 200, .inl (upd fg_ (pl : Int32).toNatClampNeg ls_)))] := hDn
            have hS := hSn
            clear hPn hDn hSn
            obtain ⟨f_10, ef_10⟩ : ∃ g : Nat → Int32, g = upd fg_ (pl : Int32).toNatClampNeg ls_ := ⟨_, rfl⟩
            rw [← ef_10] at hP hD
            have hP9 := hP.sub (ws' := [(oW, .inr (1, [.ref oC, .ref oK, .ref nw, .ref w1, .ref w2, .ref w3, .ref o7, .ref o8, .ref o9, .ref w4, .ref w5, .ref w6, .ref w7, .int x_3, .int tl, .int fsh, .int wi, .int ri, .int fm, .int lm])), (w4, .inl (cI, 200, .inl f_6)), (w5, .inl (cI, 200, .inl f_8)), (w6, .inl (cI, 200, .inl f_9)), (w7, .inl (cI, 200, .inl f_10))]) [0, 1, 2, 3, 4] rfl
            have hD9 := hD.sub (ws' := [(oW, .inr (1, [.ref oC, .ref oK, .ref nw, .ref w1, .ref w2, .ref w3, .ref o7, .ref o8, .ref o9, .ref w4, .ref w5, .ref w6, .ref w7, .int x_3, .int tl, .int fsh, .int wi, .int ri, .int fm, .int lm])), (w4, .inl (cI, 200, .inl f_6)), (w5, .inl (cI, 200, .inl f_8)), (w6, .inl (cI, 200, .inl f_9)), (w7, .inl (cI, 200, .inl f_10))]) [0, 1, 2, 3, 4] (by decide +kernel) rfl
            rw [hQQ]
            exact W.vret hx hb hr (fun t ht hW => ⟨⟨(), rfl, trivial, ⟨x_3, f_6, f_8, f_9, f_10, by rw [ht]; exact hP9, hD9, by omega, by show (ke.toInt < 200 ∧ x_3.toInt = ke.toInt + 1) ∨ (ke.toInt = 200 ∧ x_3.toInt = 200); omega, kp_end hkp hsr (by omega) (by omega) (by have c8 := v_clamp (x := x_3) (by omega); omega) ef_6 ef_8 ef_9 ef_10 (by show _ = (if a.toInt = -1 then b.toInt else a.toInt); rw [if_neg (by omega)]) (by show _ = (if a.toInt = -1 then -1 else b.toInt); rw [if_neg (by omega)]) rfl rfl hbg (Or.inl (by omega))⟩⟩, hS.F ht⟩) hS.2.2 dX1_keep_182
          · have tc_5 : a.toInt = (-1) := v_eq c_5
            refine lv_iload_n hx hb dX1_keep_142 rfl (lv_at hl 3 rfl) ?_
            refine lv_goto (tgt := 147) hx hb dX1_keep_143 (by decide) ?_
            refine va_iast hx hb hK hP hD hS 1 0 rfl rfl (v_in (by omega)) dX1_keep_147 (fun H locs hPn hDn hSn => ?_)
            clear hP hD hS
            have hP : va_P (dC, dI) vwCl [(oW, .inr (1, [.ref oC, .ref oK, .ref nw, .ref w1, .ref w2, .ref w3, .ref o7, .ref o8, .ref o9, .ref w4, .ref w5, .ref w6, .ref w7, .int x_3, .int tl, .int fsh, .int wi, .int ri, .int fm, .int lm])), (w4, .inl (cI, 200, .inl (upd fd_ (pl : Int32).toNatClampNeg b))), (w5, .inl (cI, 200, .inl fe_)), (w6, .inl (cI, 200, .inl ff_)), (w7, .inl (cI, 200, .inl fg_))] H := hPn
            have hD : va_D A [(oW, .inr (1, [.ref oC, .ref oK, .ref nw, .ref w1, .ref w2, .ref w3, .ref o7, .ref o8, .ref o9, .ref w4, .ref w5, .ref w6, .ref w7, .int x_3, .int tl, .int fsh, .int wi, .int ri, .int fm, .int lm])), (w4, .inl (cI, 200, .inl (upd fd_ (pl : Int32).toNatClampNeg b))), (w5, .inl (cI, 200, .inl fe_)), (w6, .inl (cI, 200, .inl ff_)), (w7, .inl (cI, 200, .inl fg_))] := hDn
            have hS := hSn
            clear hPn hDn hSn
            obtain ⟨f_11, ef_11⟩ : ∃ g : Nat → Int32, g = upd fd_ (pl : Int32).toNatClampNeg b := ⟨_, rfl⟩
            rw [← ef_11] at hP hD
            refine lv_aload_n hx hb dX1_keep_148 rfl (lv_at hl 1 rfl) ?_
            refine va_get (D := (dC, dI)) (ci := 1) (v := .ref w5) (C := RX1) (T := TX1) (N := 20) hx hb hts in_X1 hown hK hP 0 rfl rfl 10 (by decide) (hts (.fieldLink RX1 33 "TextMender$Choices" "secondByte" "[I") (List.mem_of_getElem? (i := 8) rfl)) (fun _ h9 => h9) rfl dX1_keep_149 ?_
            refine lv_iload hx hb dX1_keep_152 (lv_at hl 0 rfl) ?_
            refine lv_iload_n hx hb dX1_keep_154 rfl (lv_at hl 2 rfl) ?_
            refine lv_iconst (v := (-1)) hx hb dX1_keep_155 (by decide) ?_
            refine lv_icmp_ne (tgt := 163) hx hb dX1_keep_156 (by decide) (fun c_12 => by exfalso; have tc_12 : ¬ a.toInt = (-1) := v_ne c_12; omega) (fun c_12 => ?_)
            have tc_12 : a.toInt = (-1) := v_eq c_12
            refine lv_iconst (v := (-1)) hx hb dX1_keep_159 (by decide) ?_
            refine lv_goto (tgt := 164) hx hb dX1_keep_160 (by decide) ?_
            refine va_iast hx hb hK hP hD hS 2 0 rfl rfl (v_in (by omega)) dX1_keep_164 (fun H locs hPn hDn hSn => ?_)
            clear hP hD hS
            have hP : va_P (dC, dI) vwCl [(oW, .inr (1, [.ref oC, .ref oK, .ref nw, .ref w1, .ref w2, .ref w3, .ref o7, .ref o8, .ref o9, .ref w4, .ref w5, .ref w6, .ref w7, .int x_3, .int tl, .int fsh, .int wi, .int ri, .int fm, .int lm])), (w4, .inl (cI, 200, .inl f_11)), (w5, .inl (cI, 200, .inl (upd fe_ (pl : Int32).toNatClampNeg (-1)))), (w6, .inl (cI, 200, .inl ff_)), (w7, .inl (cI, 200, .inl fg_))] H := hPn
            have hD : va_D A [(oW, .inr (1, [.ref oC, .ref oK, .ref nw, .ref w1, .ref w2, .ref w3, .ref o7, .ref o8, .ref o9, .ref w4, .ref w5, .ref w6, .ref w7, .int x_3, .int tl, .int fsh, .int wi, .int ri, .int fm, .int lm])), (w4, .inl (cI, 200, .inl f_11)), (w5, .inl (cI, 200, .inl (upd fe_ (pl : Int32).toNatClampNeg (-1)))), (w6, .inl (cI, 200, .inl ff_)), (w7, .inl (cI, 200, .inl fg_))] := hDn
            have hS := hSn
            clear hPn hDn hSn
            obtain ⟨f_13, ef_13⟩ : ∃ g : Nat → Int32, g = upd fe_ (pl : Int32).toNatClampNeg (-1) := ⟨_, rfl⟩
            rw [← ef_13] at hP hD
            refine lv_aload_n hx hb dX1_keep_165 rfl (lv_at hl 1 rfl) ?_
            refine va_get (D := (dC, dI)) (ci := 1) (v := .ref w6) (C := RX1) (T := TX1) (N := 20) hx hb hts in_X1 hown hK hP 0 rfl rfl 11 (by decide) (hts (.fieldLink RX1 36 "TextMender$Choices" "costOf" "[I") (List.mem_of_getElem? (i := 2) rfl)) (fun _ h9 => h9) rfl dX1_keep_166 ?_
            refine lv_iload hx hb dX1_keep_169 (lv_at hl 0 rfl) ?_
            refine lv_iload_n hx hb dX1_keep_171 rfl (lv_at hl 4 rfl) ?_
            refine va_iast hx hb hK hP hD hS 3 0 rfl rfl (v_in (by omega)) dX1_keep_172 (fun H locs hPn hDn hSn => ?_)
            clear hP hD hS
            have hP : va_P (dC, dI) vwCl [(oW, .inr (1, [.ref oC, .ref oK, .ref nw, .ref w1, .ref w2, .ref w3, .ref o7, .ref o8, .ref o9, .ref w4, .ref w5, .ref w6, .ref w7, .int x_3, .int tl, .int fsh, .int wi, .int ri, .int fm, .int lm])), (w4, .inl (cI, 200, .inl f_11)), (w5, .inl (cI, 200, .inl f_13)), (w6, .inl (cI, 200, .inl (upd ff_ (pl : Int32).toNatClampNeg sm))), (w7, .inl (cI, 200, .inl fg_))] H := hPn
            have hD : va_D A [(oW, .inr (1, [.ref oC, .ref oK, .ref nw, .ref w1, .ref w2, .ref w3, .ref o7, .ref o8, .ref o9, .ref w4, .ref w5, .ref w6, .ref w7, .int x_3, .int tl, .int fsh, .int wi, .int ri, .int fm, .int lm])), (w4, .inl (cI, 200, .inl f_11)), (w5, .inl (cI, 200, .inl f_13)), (w6, .inl (cI, 200, .inl (upd ff_ (pl : Int32).toNatClampNeg sm))), (w7, .inl (cI, 200, .inl fg_))] := hDn
            have hS := hSn
            clear hPn hDn hSn
            obtain ⟨f_14, ef_14⟩ : ∃ g : Nat → Int32, g = upd ff_ (pl : Int32).toNatClampNeg sm := ⟨_, rfl⟩
            rw [← ef_14] at hP hD
            refine lv_aload_n hx hb dX1_keep_173 rfl (lv_at hl 1 rfl) ?_
            refine va_get (D := (dC, dI)) (ci := 1) (v := .ref w7) (C := RX1) (T := TX1) (N := 20) hx hb hts in_X1 hown hK hP 0 rfl rfl 12 (by decide) (hts (.fieldLink RX1 39 "TextMender$Choices" "lengthOf" "[I") (List.mem_of_getElem? (i := 9) rfl)) (fun _ h9 => h9) rfl dX1_keep_174 ?_
            refine lv_iload hx hb dX1_keep_177 (lv_at hl 0 rfl) ?_
            refine lv_iload hx hb dX1_keep_179 (lv_at hl 5 rfl) ?_
            refine va_iast hx hb hK hP hD hS 4 0 rfl rfl (v_in (by omega)) dX1_keep_181 (fun H locs hPn hDn hSn => ?_)
            clear hP hD hS
            have hP : va_P (dC, dI) vwCl [(oW, .inr (1, [.ref oC, .ref oK, .ref nw, .ref w1, .ref w2, .ref w3, .ref o7, .ref o8, .ref o9, .ref w4, .ref w5, .ref w6, .ref w7, .int x_3, .int tl, .int fsh, .int wi, .int ri, .int fm, .int lm])), (w4, .inl (cI, 200, .inl f_11)), (w5, .inl (cI, 200, .inl f_13)), (w6, .inl (cI, 200, .inl f_14)), (w7, .inl (cI, 200, .inl (upd fg_ (pl : Int32).toNatClampNeg ls_)))] H := hPn
            have hD : va_D A [(oW, .inr (1, [.ref oC, .ref oK, .ref nw, .ref w1, .ref w2, .ref w3, .ref o7, .ref o8, .ref o9, .ref w4, .ref w5, .ref w6, .ref w7, .int x_3, .int tl, .int fsh, .int wi, .int ri, .int fm, .int lm])), (w4, .inl (cI, 200, .inl f_11)), (w5, .inl (cI, 200, .inl f_13)), (w6, .inl (cI, 200, .inl f_14)), (w7, .inl (cI, 200, .inl (upd fg_ (pl : Int32).toNatClampNeg ls_)))] := hDn
            have hS := hSn
            clear hPn hDn hSn
            obtain ⟨f_15, ef_15⟩ : ∃ g : Nat → Int32, g = upd fg_ (pl : Int32).toNatClampNeg ls_ := ⟨_, rfl⟩
            rw [← ef_15] at hP hD
            have hP9 := hP.sub (ws' := [(oW, .inr (1, [.ref oC, .ref oK, .ref nw, .ref w1, .ref w2, .ref w3, .ref o7, .ref o8, .ref o9, .ref w4, .ref w5, .ref w6, .ref w7, .int x_3, .int tl, .int fsh, .int wi, .int ri, .int fm, .int lm])), (w4, .inl (cI, 200, .inl f_11)), (w5, .inl (cI, 200, .inl f_13)), (w6, .inl (cI, 200, .inl f_14)), (w7, .inl (cI, 200, .inl f_15))]) [0, 1, 2, 3, 4] rfl
            have hD9 := hD.sub (ws' := [(oW, .inr (1, [.ref oC, .ref oK, .ref nw, .ref w1, .ref w2, .ref w3, .ref o7, .ref o8, .ref o9, .ref w4, .ref w5, .ref w6, .ref w7, .int x_3, .int tl, .int fsh, .int wi, .int ri, .int fm, .int lm])), (w4, .inl (cI, 200, .inl f_11)), (w5, .inl (cI, 200, .inl f_13)), (w6, .inl (cI, 200, .inl f_14)), (w7, .inl (cI, 200, .inl f_15))]) [0, 1, 2, 3, 4] (by decide +kernel) rfl
            rw [hQQ]
            exact W.vret hx hb hr (fun t ht hW => ⟨⟨(), rfl, trivial, ⟨x_3, f_11, f_13, f_14, f_15, by rw [ht]; exact hP9, hD9, by omega, by show (ke.toInt < 200 ∧ x_3.toInt = ke.toInt + 1) ∨ (ke.toInt = 200 ∧ x_3.toInt = 200); omega, kp_end hkp hsr (by omega) (by omega) (by have c8 := v_clamp (x := x_3) (by omega); omega) ef_11 ef_13 ef_14 ef_15 (by show _ = (if a.toInt = -1 then b.toInt else a.toInt); rw [if_pos (by omega)]) (by show _ = (if a.toInt = -1 then -1 else b.toInt); rw [if_pos (by omega)]; rfl) rfl rfl hbg (Or.inl (by omega))⟩⟩, hS.F ht⟩) hS.2.2 dX1_keep_182
        · have tc_4 : 0 < pl.toInt := v_nle c_4
          refine lv_aload_n hx hb dX1_keep_48 rfl (lv_at hl 1 rfl) ?_
          refine va_get (D := (dC, dI)) (ci := 1) (v := .ref w6) (C := RX1) (T := TX1) (N := 20) hx hb hts in_X1 hown hK hP 0 rfl rfl 11 (by decide) (hts (.fieldLink RX1 36 "TextMender$Choices" "costOf" "[I") (List.mem_of_getElem? (i := 2) rfl)) (fun _ h9 => h9) rfl dX1_keep_49 ?_
          refine lv_iload hx hb dX1_keep_52 (lv_at hl 0 rfl) ?_
          refine lv_iconst (v := 1) hx hb dX1_keep_54 (by decide) ?_
          refine lv_isub hx hb dX1_keep_55 ?_
          refine lv_topi (fun x_16 ex_16 => ?_)
          have tx_16 : x_16.toInt = pl.toInt - 1 := v_sub ex_16 (by show -2147483648 ≤ pl.toInt - 1; omega) (by show pl.toInt - 1 < 2147483648; omega)
          refine va_iald hx hb hK hP 3 0 rfl rfl (v_in (by omega)) dX1_keep_56 ?_
          refine lv_topi (fun x_17 ex_17 => ?_)
          refine lv_iload_n hx hb dX1_keep_57 rfl (lv_at hl 4 rfl) ?_
          refine lv_icmp_le (tgt := 131) hx hb dX1_keep_58 (by decide) (fun c_18 => ?_) (fun c_18 => ?_)
          · have tc_18 : x_17.toInt ≤ sm.toInt := v_le c_18
            have rw18_0 := v_rng x_17
            have rw18_1 := v_rng sm
            refine lv_aload_n hx hb dX1_keep_131 rfl (lv_at hl 1 rfl) ?_
            refine va_get (D := (dC, dI)) (ci := 1) (v := .ref w4) (C := RX1) (T := TX1) (N := 20) hx hb hts in_X1 hown hK hP 0 rfl rfl 9 (by decide) (hts (.fieldLink RX1 30 "TextMender$Choices" "firstByte" "[I") (List.mem_of_getElem? (i := 7) rfl)) (fun _ h9 => h9) rfl dX1_keep_132 ?_
            refine lv_iload hx hb dX1_keep_135 (lv_at hl 0 rfl) ?_
            refine lv_iload_n hx hb dX1_keep_137 rfl (lv_at hl 2 rfl) ?_
            refine lv_iconst (v := (-1)) hx hb dX1_keep_138 (by decide) ?_
            refine lv_icmp_ne (tgt := 146) hx hb dX1_keep_139 (by decide) (fun c_19 => ?_) (fun c_19 => ?_)
            · have tc_19 : ¬ a.toInt = (-1) := v_ne c_19
              refine lv_iload_n hx hb dX1_keep_146 rfl (lv_at hl 2 rfl) ?_
              refine va_iast hx hb hK hP hD hS 1 0 rfl rfl (v_in (by omega)) dX1_keep_147 (fun H locs hPn hDn hSn => ?_)
              clear hP hD hS
              have hP : va_P (dC, dI) vwCl [(oW, .inr (1, [.ref oC, .ref oK, .ref nw, .ref w1, .ref w2, .ref w3, .ref o7, .ref o8, .ref o9, .ref w4, .ref w5, .ref w6, .ref w7, .int x_3, .int tl, .int fsh, .int wi, .int ri, .int fm, .int lm])), (w4, .inl (cI, 200, .inl (upd fd_ (pl : Int32).toNatClampNeg a))), (w5, .inl (cI, 200, .inl fe_)), (w6, .inl (cI, 200, .inl ff_)), (w7, .inl (cI, 200, .inl fg_))] H := hPn
              have hD : va_D A [(oW, .inr (1, [.ref oC, .ref oK, .ref nw, .ref w1, .ref w2, .ref w3, .ref o7, .ref o8, .ref o9, .ref w4, .ref w5, .ref w6, .ref w7, .int x_3, .int tl, .int fsh, .int wi, .int ri, .int fm, .int lm])), (w4, .inl (cI, 200, .inl (upd fd_ (pl : Int32).toNatClampNeg a))), (w5, .inl (cI, 200, .inl fe_)), (w6, .inl (cI, 200, .inl ff_)), (w7, .inl (cI, 200, .inl fg_))] := hDn
              have hS := hSn
              clear hPn hDn hSn
              obtain ⟨f_20, ef_20⟩ : ∃ g : Nat → Int32, g = upd fd_ (pl : Int32).toNatClampNeg a := ⟨_, rfl⟩
              rw [← ef_20] at hP hD
              refine lv_aload_n hx hb dX1_keep_148 rfl (lv_at hl 1 rfl) ?_
              refine va_get (D := (dC, dI)) (ci := 1) (v := .ref w5) (C := RX1) (T := TX1) (N := 20) hx hb hts in_X1 hown hK hP 0 rfl rfl 10 (by decide) (hts (.fieldLink RX1 33 "TextMender$Choices" "secondByte" "[I") (List.mem_of_getElem? (i := 8) rfl)) (fun _ h9 => h9) rfl dX1_keep_149 ?_
              refine lv_iload hx hb dX1_keep_152 (lv_at hl 0 rfl) ?_
              refine lv_iload_n hx hb dX1_keep_154 rfl (lv_at hl 2 rfl) ?_
              refine lv_iconst (v := (-1)) hx hb dX1_keep_155 (by decide) ?_
              refine lv_icmp_ne (tgt := 163) hx hb dX1_keep_156 (by decide) (fun c_21 => ?_) (fun c_21 => by exfalso; have tc_21 : a.toInt = (-1) := v_eq c_21; omega)
              have tc_21 : ¬ a.toInt = (-1) := v_ne c_21
              refine lv_iload_n hx hb dX1_keep_163 rfl (lv_at hl 3 rfl) ?_
              refine va_iast hx hb hK hP hD hS 2 0 rfl rfl (v_in (by omega)) dX1_keep_164 (fun H locs hPn hDn hSn => ?_)
              clear hP hD hS
              have hP : va_P (dC, dI) vwCl [(oW, .inr (1, [.ref oC, .ref oK, .ref nw, .ref w1, .ref w2, .ref w3, .ref o7, .ref o8, .ref o9, .ref w4, .ref w5, .ref w6, .ref w7, .int x_3, .int tl, .int fsh, .int wi, .int ri, .int fm, .int lm])), (w4, .inl (cI, 200, .inl f_20)), (w5, .inl (cI, 200, .inl (upd fe_ (pl : Int32).toNatClampNeg b))), (w6, .inl (cI, 200, .inl ff_)), (w7, .inl (cI, 200, .inl fg_))] H := hPn
              have hD : va_D A [(oW, .inr (1, [.ref oC, .ref oK, .ref nw, .ref w1, .ref w2, .ref w3, .ref o7, .ref o8, .ref o9, .ref w4, .ref w5, .ref w6, .ref w7, .int x_3, .int tl, .int fsh, .int wi, .int ri, .int fm, .int lm])), (w4, .inl (cI, 200, .inl f_20)), (w5, .inl (cI, 200, .inl (upd fe_ (pl : Int32).toNatClampNeg b))), (w6, .inl (cI, 200, .inl ff_)), (w7, .inl (cI, 200, .inl fg_))] := hDn
              have hS := hSn
              clear hPn hDn hSn
              obtain ⟨f_22, ef_22⟩ : ∃ g : Nat → Int32, g = upd fe_ (pl : Int32).toNatClampNeg b := ⟨_, rfl⟩
              rw [← ef_22] at hP hD
              refine lv_aload_n hx hb dX1_keep_165 rfl (lv_at hl 1 rfl) ?_
              refine va_get (D := (dC, dI)) (ci := 1) (v := .ref w6) (C := RX1) (T := TX1) (N := 20) hx hb hts in_X1 hown hK hP 0 rfl rfl 11 (by decide) (hts (.fieldLink RX1 36 "TextMender$Choices" "costOf" "[I") (List.mem_of_getElem? (i := 2) rfl)) (fun _ h9 => h9) rfl dX1_keep_166 ?_
              refine lv_iload hx hb dX1_keep_169 (lv_at hl 0 rfl) ?_
              refine lv_iload_n hx hb dX1_keep_171 rfl (lv_at hl 4 rfl) ?_
              refine va_iast hx hb hK hP hD hS 3 0 rfl rfl (v_in (by omega)) dX1_keep_172 (fun H locs hPn hDn hSn => ?_)
              clear hP hD hS
              have hP : va_P (dC, dI) vwCl [(oW, .inr (1, [.ref oC, .ref oK, .ref nw, .ref w1, .ref w2, .ref w3, .ref o7, .ref o8, .ref o9, .ref w4, .ref w5, .ref w6, .ref w7, .int x_3, .int tl, .int fsh, .int wi, .int ri, .int fm, .int lm])), (w4, .inl (cI, 200, .inl f_20)), (w5, .inl (cI, 200, .inl f_22)), (w6, .inl (cI, 200, .inl (upd ff_ (pl : Int32).toNatClampNeg sm))), (w7, .inl (cI, 200, .inl fg_))] H := hPn
              have hD : va_D A [(oW, .inr (1, [.ref oC, .ref oK, .ref nw, .ref w1, .ref w2, .ref w3, .ref o7, .ref o8, .ref o9, .ref w4, .ref w5, .ref w6, .ref w7, .int x_3, .int tl, .int fsh, .int wi, .int ri, .int fm, .int lm])), (w4, .inl (cI, 200, .inl f_20)), (w5, .inl (cI, 200, .inl f_22)), (w6, .inl (cI, 200, .inl (upd ff_ (pl : Int32).toNatClampNeg sm))), (w7, .inl (cI, 200, .inl fg_))] := hDn
              have hS := hSn
              clear hPn hDn hSn
              obtain ⟨f_23, ef_23⟩ : ∃ g : Nat → Int32, g = upd ff_ (pl : Int32).toNatClampNeg sm := ⟨_, rfl⟩
              rw [← ef_23] at hP hD
              refine lv_aload_n hx hb dX1_keep_173 rfl (lv_at hl 1 rfl) ?_
              refine va_get (D := (dC, dI)) (ci := 1) (v := .ref w7) (C := RX1) (T := TX1) (N := 20) hx hb hts in_X1 hown hK hP 0 rfl rfl 12 (by decide) (hts (.fieldLink RX1 39 "TextMender$Choices" "lengthOf" "[I") (List.mem_of_getElem? (i := 9) rfl)) (fun _ h9 => h9) rfl dX1_keep_174 ?_
              refine lv_iload hx hb dX1_keep_177 (lv_at hl 0 rfl) ?_
              refine lv_iload hx hb dX1_keep_179 (lv_at hl 5 rfl) ?_
              refine va_iast hx hb hK hP hD hS 4 0 rfl rfl (v_in (by omega)) dX1_keep_181 (fun H locs hPn hDn hSn => ?_)
              clear hP hD hS
              have hP : va_P (dC, dI) vwCl [(oW, .inr (1, [.ref oC, .ref oK, .ref nw, .ref w1, .ref w2, .ref w3, .ref o7, .ref o8, .ref o9, .ref w4, .ref w5, .ref w6, .ref w7, .int x_3, .int tl, .int fsh, .int wi, .int ri, .int fm, .int lm])), (w4, .inl (cI, 200, .inl f_20)), (w5, .inl (cI, 200, .inl f_22)), (w6, .inl (cI, 200, .inl f_23)), (w7, .inl (cI, 200, .inl (upd fg_ (pl : Int32).toNatClampNeg ls_)))] H := hPn
              have hD : va_D A [(oW, .inr (1, [.ref oC, .ref oK, .ref nw, .ref w1, .ref w2, .ref w3, .ref o7, .ref o8, .ref o9, .ref w4, .ref w5, .ref w6, .ref w7, .int x_3, .int tl, .int fsh, .int wi, .int ri, .int fm, .int lm])), (w4, .inl (cI, 200, .inl f_20)), (w5, .inl (cI, 200, .inl f_22)), (w6, .inl (cI, 200, .inl f_23)), (w7, .inl (cI, 200, .inl (upd fg_ (pl : Int32).toNatClampNeg ls_)))] := hDn
              have hS := hSn
              clear hPn hDn hSn
              obtain ⟨f_24, ef_24⟩ : ∃ g : Nat → Int32, g = upd fg_ (pl : Int32).toNatClampNeg ls_ := ⟨_, rfl⟩
              rw [← ef_24] at hP hD
              have hP9 := hP.sub (ws' := [(oW, .inr (1, [.ref oC, .ref oK, .ref nw, .ref w1, .ref w2, .ref w3, .ref o7, .ref o8, .ref o9, .ref w4, .ref w5, .ref w6, .ref w7, .int x_3, .int tl, .int fsh, .int wi, .int ri, .int fm, .int lm])), (w4, .inl (cI, 200, .inl f_20)), (w5, .inl (cI, 200, .inl f_22)), (w6, .inl (cI, 200, .inl f_23)), (w7, .inl (cI, 200, .inl f_24))]) [0, 1, 2, 3, 4] rfl
              have hD9 := hD.sub (ws' := [(oW, .inr (1, [.ref oC, .ref oK, .ref nw, .ref w1, .ref w2, .ref w3, .ref o7, .ref o8, .ref o9, .ref w4, .ref w5, .ref w6, .ref w7, .int x_3, .int tl, .int fsh, .int wi, .int ri, .int fm, .int lm])), (w4, .inl (cI, 200, .inl f_20)), (w5, .inl (cI, 200, .inl f_22)), (w6, .inl (cI, 200, .inl f_23)), (w7, .inl (cI, 200, .inl f_24))]) [0, 1, 2, 3, 4] (by decide +kernel) rfl
              rw [hQQ]
              exact W.vret hx hb hr (fun t ht hW => ⟨⟨(), rfl, trivial, ⟨x_3, f_20, f_22, f_23, f_24, by rw [ht]; exact hP9, hD9, by omega, by show (ke.toInt < 200 ∧ x_3.toInt = ke.toInt + 1) ∨ (ke.toInt = 200 ∧ x_3.toInt = 200); omega, kp_end hkp hsr (by omega) (by omega) (by have c8 := v_clamp (x := x_3) (by omega); omega) ef_20 ef_22 ef_23 ef_24 (by show _ = (if a.toInt = -1 then b.toInt else a.toInt); rw [if_neg (by omega)]) (by show _ = (if a.toInt = -1 then -1 else b.toInt); rw [if_neg (by omega)]) rfl rfl hbg (Or.inr ⟨x_16, x_17, by omega, ex_17, by show _ ≤ sm.toInt; omega⟩)⟩⟩, hS.F ht⟩) hS.2.2 dX1_keep_182
            · have tc_19 : a.toInt = (-1) := v_eq c_19
              refine lv_iload_n hx hb dX1_keep_142 rfl (lv_at hl 3 rfl) ?_
              refine lv_goto (tgt := 147) hx hb dX1_keep_143 (by decide) ?_
              refine va_iast hx hb hK hP hD hS 1 0 rfl rfl (v_in (by omega)) dX1_keep_147 (fun H locs hPn hDn hSn => ?_)
              clear hP hD hS
              have hP : va_P (dC, dI) vwCl [(oW, .inr (1, [.ref oC, .ref oK, .ref nw, .ref w1, .ref w2, .ref w3, .ref o7, .ref o8, .ref o9, .ref w4, .ref w5, .ref w6, .ref w7, .int x_3, .int tl, .int fsh, .int wi, .int ri, .int fm, .int lm])), (w4, .inl (cI, 200, .inl (upd fd_ (pl : Int32).toNatClampNeg b))), (w5, .inl (cI, 200, .inl fe_)), (w6, .inl (cI, 200, .inl ff_)), (w7, .inl (cI, 200, .inl fg_))] H := hPn
              have hD : va_D A [(oW, .inr (1, [.ref oC, .ref oK, .ref nw, .ref w1, .ref w2, .ref w3, .ref o7, .ref o8, .ref o9, .ref w4, .ref w5, .ref w6, .ref w7, .int x_3, .int tl, .int fsh, .int wi, .int ri, .int fm, .int lm])), (w4, .inl (cI, 200, .inl (upd fd_ (pl : Int32).toNatClampNeg b))), (w5, .inl (cI, 200, .inl fe_)), (w6, .inl (cI, 200, .inl ff_)), (w7, .inl (cI, 200, .inl fg_))] := hDn
              have hS := hSn
              clear hPn hDn hSn
              obtain ⟨f_25, ef_25⟩ : ∃ g : Nat → Int32, g = upd fd_ (pl : Int32).toNatClampNeg b := ⟨_, rfl⟩
              rw [← ef_25] at hP hD
              refine lv_aload_n hx hb dX1_keep_148 rfl (lv_at hl 1 rfl) ?_
              refine va_get (D := (dC, dI)) (ci := 1) (v := .ref w5) (C := RX1) (T := TX1) (N := 20) hx hb hts in_X1 hown hK hP 0 rfl rfl 10 (by decide) (hts (.fieldLink RX1 33 "TextMender$Choices" "secondByte" "[I") (List.mem_of_getElem? (i := 8) rfl)) (fun _ h9 => h9) rfl dX1_keep_149 ?_
              refine lv_iload hx hb dX1_keep_152 (lv_at hl 0 rfl) ?_
              refine lv_iload_n hx hb dX1_keep_154 rfl (lv_at hl 2 rfl) ?_
              refine lv_iconst (v := (-1)) hx hb dX1_keep_155 (by decide) ?_
              refine lv_icmp_ne (tgt := 163) hx hb dX1_keep_156 (by decide) (fun c_26 => by exfalso; have tc_26 : ¬ a.toInt = (-1) := v_ne c_26; omega) (fun c_26 => ?_)
              have tc_26 : a.toInt = (-1) := v_eq c_26
              refine lv_iconst (v := (-1)) hx hb dX1_keep_159 (by decide) ?_
              refine lv_goto (tgt := 164) hx hb dX1_keep_160 (by decide) ?_
              refine va_iast hx hb hK hP hD hS 2 0 rfl rfl (v_in (by omega)) dX1_keep_164 (fun H locs hPn hDn hSn => ?_)
              clear hP hD hS
              have hP : va_P (dC, dI) vwCl [(oW, .inr (1, [.ref oC, .ref oK, .ref nw, .ref w1, .ref w2, .ref w3, .ref o7, .ref o8, .ref o9, .ref w4, .ref w5, .ref w6, .ref w7, .int x_3, .int tl, .int fsh, .int wi, .int ri, .int fm, .int lm])), (w4, .inl (cI, 200, .inl f_25)), (w5, .inl (cI, 200, .inl (upd fe_ (pl : Int32).toNatClampNeg (-1)))), (w6, .inl (cI, 200, .inl ff_)), (w7, .inl (cI, 200, .inl fg_))] H := hPn
              have hD : va_D A [(oW, .inr (1, [.ref oC, .ref oK, .ref nw, .ref w1, .ref w2, .ref w3, .ref o7, .ref o8, .ref o9, .ref w4, .ref w5, .ref w6, .ref w7, .int x_3, .int tl, .int fsh, .int wi, .int ri, .int fm, .int lm])), (w4, .inl (cI, 200, .inl f_25)), (w5, .inl (cI, 200, .inl (upd fe_ (pl : Int32).toNatClampNeg (-1)))), (w6, .inl (cI, 200, .inl ff_)), (w7, .inl (cI, 200, .inl fg_))] := hDn
              have hS := hSn
              clear hPn hDn hSn
              obtain ⟨f_27, ef_27⟩ : ∃ g : Nat → Int32, g = upd fe_ (pl : Int32).toNatClampNeg (-1) := ⟨_, rfl⟩
              rw [← ef_27] at hP hD
              refine lv_aload_n hx hb dX1_keep_165 rfl (lv_at hl 1 rfl) ?_
              refine va_get (D := (dC, dI)) (ci := 1) (v := .ref w6) (C := RX1) (T := TX1) (N := 20) hx hb hts in_X1 hown hK hP 0 rfl rfl 11 (by decide) (hts (.fieldLink RX1 36 "TextMender$Choices" "costOf" "[I") (List.mem_of_getElem? (i := 2) rfl)) (fun _ h9 => h9) rfl dX1_keep_166 ?_
              refine lv_iload hx hb dX1_keep_169 (lv_at hl 0 rfl) ?_
              refine lv_iload_n hx hb dX1_keep_171 rfl (lv_at hl 4 rfl) ?_
              refine va_iast hx hb hK hP hD hS 3 0 rfl rfl (v_in (by omega)) dX1_keep_172 (fun H locs hPn hDn hSn => ?_)
              clear hP hD hS
              have hP : va_P (dC, dI) vwCl [(oW, .inr (1, [.ref oC, .ref oK, .ref nw, .ref w1, .ref w2, .ref w3, .ref o7, .ref o8, .ref o9, .ref w4, .ref w5, .ref w6, .ref w7, .int x_3, .int tl, .int fsh, .int wi, .int ri, .int fm, .int lm])), (w4, .inl (cI, 200, .inl f_25)), (w5, .inl (cI, 200, .inl f_27)), (w6, .inl (cI, 200, .inl (upd ff_ (pl : Int32).toNatClampNeg sm))), (w7, .inl (cI, 200, .inl fg_))] H := hPn
              have hD : va_D A [(oW, .inr (1, [.ref oC, .ref oK, .ref nw, .ref w1, .ref w2, .ref w3, .ref o7, .ref o8, .ref o9, .ref w4, .ref w5, .ref w6, .ref w7, .int x_3, .int tl, .int fsh, .int wi, .int ri, .int fm, .int lm])), (w4, .inl (cI, 200, .inl f_25)), (w5, .inl (cI, 200, .inl f_27)), (w6, .inl (cI, 200, .inl (upd ff_ (pl : Int32).toNatClampNeg sm))), (w7, .inl (cI, 200, .inl fg_))] := hDn
              have hS := hSn
              clear hPn hDn hSn
              obtain ⟨f_28, ef_28⟩ : ∃ g : Nat → Int32, g = upd ff_ (pl : Int32).toNatClampNeg sm := ⟨_, rfl⟩
              rw [← ef_28] at hP hD
              refine lv_aload_n hx hb dX1_keep_173 rfl (lv_at hl 1 rfl) ?_
              refine va_get (D := (dC, dI)) (ci := 1) (v := .ref w7) (C := RX1) (T := TX1) (N := 20) hx hb hts in_X1 hown hK hP 0 rfl rfl 12 (by decide) (hts (.fieldLink RX1 39 "TextMender$Choices" "lengthOf" "[I") (List.mem_of_getElem? (i := 9) rfl)) (fun _ h9 => h9) rfl dX1_keep_174 ?_
              refine lv_iload hx hb dX1_keep_177 (lv_at hl 0 rfl) ?_
              refine lv_iload hx hb dX1_keep_179 (lv_at hl 5 rfl) ?_
              refine va_iast hx hb hK hP hD hS 4 0 rfl rfl (v_in (by omega)) dX1_keep_181 (fun H locs hPn hDn hSn => ?_)
              clear hP hD hS
              have hP : va_P (dC, dI) vwCl [(oW, .inr (1, [.ref oC, .ref oK, .ref nw, .ref w1, .ref w2, .ref w3, .ref o7, .ref o8, .ref o9, .ref w4, .ref w5, .ref w6, .ref w7, .int x_3, .int tl, .int fsh, .int wi, .int ri, .int fm, .int lm])), (w4, .inl (cI, 200, .inl f_25)), (w5, .inl (cI, 200, .inl f_27)), (w6, .inl (cI, 200, .inl f_28)), (w7, .inl (cI, 200, .inl (upd fg_ (pl : Int32).toNatClampNeg ls_)))] H := hPn
              have hD : va_D A [(oW, .inr (1, [.ref oC, .ref oK, .ref nw, .ref w1, .ref w2, .ref w3, .ref o7, .ref o8, .ref o9, .ref w4, .ref w5, .ref w6, .ref w7, .int x_3, .int tl, .int fsh, .int wi, .int ri, .int fm, .int lm])), (w4, .inl (cI, 200, .inl f_25)), (w5, .inl (cI, 200, .inl f_27)), (w6, .inl (cI, 200, .inl f_28)), (w7, .inl (cI, 200, .inl (upd fg_ (pl : Int32).toNatClampNeg ls_)))] := hDn
              have hS := hSn
              clear hPn hDn hSn
              obtain ⟨f_29, ef_29⟩ : ∃ g : Nat → Int32, g = upd fg_ (pl : Int32).toNatClampNeg ls_ := ⟨_, rfl⟩
              rw [← ef_29] at hP hD
              have hP9 := hP.sub (ws' := [(oW, .inr (1, [.ref oC, .ref oK, .ref nw, .ref w1, .ref w2, .ref w3, .ref o7, .ref o8, .ref o9, .ref w4, .ref w5, .ref w6, .ref w7, .int x_3, .int tl, .int fsh, .int wi, .int ri, .int fm, .int lm])), (w4, .inl (cI, 200, .inl f_25)), (w5, .inl (cI, 200, .inl f_27)), (w6, .inl (cI, 200, .inl f_28)), (w7, .inl (cI, 200, .inl f_29))]) [0, 1, 2, 3, 4] rfl
              have hD9 := hD.sub (ws' := [(oW, .inr (1, [.ref oC, .ref oK, .ref nw, .ref w1, .ref w2, .ref w3, .ref o7, .ref o8, .ref o9, .ref w4, .ref w5, .ref w6, .ref w7, .int x_3, .int tl, .int fsh, .int wi, .int ri, .int fm, .int lm])), (w4, .inl (cI, 200, .inl f_25)), (w5, .inl (cI, 200, .inl f_27)), (w6, .inl (cI, 200, .inl f_28)), (w7, .inl (cI, 200, .inl f_29))]) [0, 1, 2, 3, 4] (by decide +kernel) rfl
              rw [hQQ]
              exact W.vret hx hb hr (fun t ht hW => ⟨⟨(), rfl, trivial, ⟨x_3, f_25, f_27, f_28, f_29, by rw [ht]; exact hP9, hD9, by omega, by show (ke.toInt < 200 ∧ x_3.toInt = ke.toInt + 1) ∨ (ke.toInt = 200 ∧ x_3.toInt = 200); omega, kp_end hkp hsr (by omega) (by omega) (by have c8 := v_clamp (x := x_3) (by omega); omega) ef_25 ef_27 ef_28 ef_29 (by show _ = (if a.toInt = -1 then b.toInt else a.toInt); rw [if_pos (by omega)]) (by show _ = (if a.toInt = -1 then -1 else b.toInt); rw [if_pos (by omega)]; rfl) rfl rfl hbg (Or.inr ⟨x_16, x_17, by omega, ex_17, by show _ ≤ sm.toInt; omega⟩)⟩⟩, hS.F ht⟩) hS.2.2 dX1_keep_182
          · have tc_18 : sm.toInt < x_17.toInt := v_nle c_18
            have rw18_0 := v_rng x_17
            have rw18_1 := v_rng sm
            refine lv_aload_n hx hb dX1_keep_61 rfl (lv_at hl 1 rfl) ?_
            refine va_get (D := (dC, dI)) (ci := 1) (v := .ref w4) (C := RX1) (T := TX1) (N := 20) hx hb hts in_X1 hown hK hP 0 rfl rfl 9 (by decide) (hts (.fieldLink RX1 30 "TextMender$Choices" "firstByte" "[I") (List.mem_of_getElem? (i := 7) rfl)) (fun _ h9 => h9) rfl dX1_keep_62 ?_
            refine lv_iload hx hb dX1_keep_65 (lv_at hl 0 rfl) ?_
            refine lv_aload_n hx hb dX1_keep_67 rfl (lv_at hl 1 rfl) ?_
            refine va_get (D := (dC, dI)) (ci := 1) (v := .ref w4) (C := RX1) (T := TX1) (N := 20) hx hb hts in_X1 hown hK hP 0 rfl rfl 9 (by decide) (hts (.fieldLink RX1 30 "TextMender$Choices" "firstByte" "[I") (List.mem_of_getElem? (i := 7) rfl)) (fun _ h9 => h9) rfl dX1_keep_68 ?_
            refine lv_iload hx hb dX1_keep_71 (lv_at hl 0 rfl) ?_
            refine lv_iconst (v := 1) hx hb dX1_keep_73 (by decide) ?_
            refine lv_isub hx hb dX1_keep_74 ?_
            refine lv_topi (fun x_30 ex_30 => ?_)
            have tx_30 : x_30.toInt = pl.toInt - 1 := v_sub ex_30 (by show -2147483648 ≤ pl.toInt - 1; omega) (by show pl.toInt - 1 < 2147483648; omega)
            refine va_iald hx hb hK hP 1 0 rfl rfl (v_in (by omega)) dX1_keep_75 ?_
            refine lv_topi (fun x_31 ex_31 => ?_)
            refine va_iast hx hb hK hP hD hS 1 0 rfl rfl (v_in (by omega)) dX1_keep_76 (fun H locs hPn hDn hSn => ?_)
            clear hP hD hS
            have hP : va_P (dC, dI) vwCl [(oW, .inr (1, [.ref oC, .ref oK, .ref nw, .ref w1, .ref w2, .ref w3, .ref o7, .ref o8, .ref o9, .ref w4, .ref w5, .ref w6, .ref w7, .int x_3, .int tl, .int fsh, .int wi, .int ri, .int fm, .int lm])), (w4, .inl (cI, 200, .inl (upd fd_ (pl : Int32).toNatClampNeg x_31))), (w5, .inl (cI, 200, .inl fe_)), (w6, .inl (cI, 200, .inl ff_)), (w7, .inl (cI, 200, .inl fg_))] H := hPn
            have hD : va_D A [(oW, .inr (1, [.ref oC, .ref oK, .ref nw, .ref w1, .ref w2, .ref w3, .ref o7, .ref o8, .ref o9, .ref w4, .ref w5, .ref w6, .ref w7, .int x_3, .int tl, .int fsh, .int wi, .int ri, .int fm, .int lm])), (w4, .inl (cI, 200, .inl (upd fd_ (pl : Int32).toNatClampNeg x_31))), (w5, .inl (cI, 200, .inl fe_)), (w6, .inl (cI, 200, .inl ff_)), (w7, .inl (cI, 200, .inl fg_))] := hDn
            have hS := hSn
            clear hPn hDn hSn
            obtain ⟨f_32, ef_32⟩ : ∃ g : Nat → Int32, g = upd fd_ (pl : Int32).toNatClampNeg x_31 := ⟨_, rfl⟩
            rw [← ef_32] at hP hD
            refine lv_aload_n hx hb dX1_keep_77 rfl (lv_at hl 1 rfl) ?_
            refine va_get (D := (dC, dI)) (ci := 1) (v := .ref w5) (C := RX1) (T := TX1) (N := 20) hx hb hts in_X1 hown hK hP 0 rfl rfl 10 (by decide) (hts (.fieldLink RX1 33 "TextMender$Choices" "secondByte" "[I") (List.mem_of_getElem? (i := 8) rfl)) (fun _ h9 => h9) rfl dX1_keep_78 ?_
            refine lv_iload hx hb dX1_keep_81 (lv_at hl 0 rfl) ?_
            refine lv_aload_n hx hb dX1_keep_83 rfl (lv_at hl 1 rfl) ?_
            refine va_get (D := (dC, dI)) (ci := 1) (v := .ref w5) (C := RX1) (T := TX1) (N := 20) hx hb hts in_X1 hown hK hP 0 rfl rfl 10 (by decide) (hts (.fieldLink RX1 33 "TextMender$Choices" "secondByte" "[I") (List.mem_of_getElem? (i := 8) rfl)) (fun _ h9 => h9) rfl dX1_keep_84 ?_
            refine lv_iload hx hb dX1_keep_87 (lv_at hl 0 rfl) ?_
            refine lv_iconst (v := 1) hx hb dX1_keep_89 (by decide) ?_
            refine lv_isub hx hb dX1_keep_90 ?_
            refine lv_topi (fun x_33 ex_33 => ?_)
            have tx_33 : x_33.toInt = pl.toInt - 1 := v_sub ex_33 (by show -2147483648 ≤ pl.toInt - 1; omega) (by show pl.toInt - 1 < 2147483648; omega)
            refine va_iald hx hb hK hP 2 0 rfl rfl (v_in (by omega)) dX1_keep_91 ?_
            refine lv_topi (fun x_34 ex_34 => ?_)
            refine va_iast hx hb hK hP hD hS 2 0 rfl rfl (v_in (by omega)) dX1_keep_92 (fun H locs hPn hDn hSn => ?_)
            clear hP hD hS
            have hP : va_P (dC, dI) vwCl [(oW, .inr (1, [.ref oC, .ref oK, .ref nw, .ref w1, .ref w2, .ref w3, .ref o7, .ref o8, .ref o9, .ref w4, .ref w5, .ref w6, .ref w7, .int x_3, .int tl, .int fsh, .int wi, .int ri, .int fm, .int lm])), (w4, .inl (cI, 200, .inl f_32)), (w5, .inl (cI, 200, .inl (upd fe_ (pl : Int32).toNatClampNeg x_34))), (w6, .inl (cI, 200, .inl ff_)), (w7, .inl (cI, 200, .inl fg_))] H := hPn
            have hD : va_D A [(oW, .inr (1, [.ref oC, .ref oK, .ref nw, .ref w1, .ref w2, .ref w3, .ref o7, .ref o8, .ref o9, .ref w4, .ref w5, .ref w6, .ref w7, .int x_3, .int tl, .int fsh, .int wi, .int ri, .int fm, .int lm])), (w4, .inl (cI, 200, .inl f_32)), (w5, .inl (cI, 200, .inl (upd fe_ (pl : Int32).toNatClampNeg x_34))), (w6, .inl (cI, 200, .inl ff_)), (w7, .inl (cI, 200, .inl fg_))] := hDn
            have hS := hSn
            clear hPn hDn hSn
            obtain ⟨f_35, ef_35⟩ : ∃ g : Nat → Int32, g = upd fe_ (pl : Int32).toNatClampNeg x_34 := ⟨_, rfl⟩
            rw [← ef_35] at hP hD
            refine lv_aload_n hx hb dX1_keep_93 rfl (lv_at hl 1 rfl) ?_
            refine va_get (D := (dC, dI)) (ci := 1) (v := .ref w6) (C := RX1) (T := TX1) (N := 20) hx hb hts in_X1 hown hK hP 0 rfl rfl 11 (by decide) (hts (.fieldLink RX1 36 "TextMender$Choices" "costOf" "[I") (List.mem_of_getElem? (i := 2) rfl)) (fun _ h9 => h9) rfl dX1_keep_94 ?_
            refine lv_iload hx hb dX1_keep_97 (lv_at hl 0 rfl) ?_
            refine lv_aload_n hx hb dX1_keep_99 rfl (lv_at hl 1 rfl) ?_
            refine va_get (D := (dC, dI)) (ci := 1) (v := .ref w6) (C := RX1) (T := TX1) (N := 20) hx hb hts in_X1 hown hK hP 0 rfl rfl 11 (by decide) (hts (.fieldLink RX1 36 "TextMender$Choices" "costOf" "[I") (List.mem_of_getElem? (i := 2) rfl)) (fun _ h9 => h9) rfl dX1_keep_100 ?_
            refine lv_iload hx hb dX1_keep_103 (lv_at hl 0 rfl) ?_
            refine lv_iconst (v := 1) hx hb dX1_keep_105 (by decide) ?_
            refine lv_isub hx hb dX1_keep_106 ?_
            refine lv_topi (fun x_36 ex_36 => ?_)
            have tx_36 : x_36.toInt = pl.toInt - 1 := v_sub ex_36 (by show -2147483648 ≤ pl.toInt - 1; omega) (by show pl.toInt - 1 < 2147483648; omega)
            refine va_iald hx hb hK hP 3 0 rfl rfl (v_in (by omega)) dX1_keep_107 ?_
            refine lv_topi (fun x_37 ex_37 => ?_)
            refine va_iast hx hb hK hP hD hS 3 0 rfl rfl (v_in (by omega)) dX1_keep_108 (fun H locs hPn hDn hSn => ?_)
            clear hP hD hS
            have hP : va_P (dC, dI) vwCl [(oW, .inr (1, [.ref oC, .ref oK, .ref nw, .ref w1, .ref w2, .ref w3, .ref o7, .ref o8, .ref o9, .ref w4, .ref w5, .ref w6, .ref w7, .int x_3, .int tl, .int fsh, .int wi, .int ri, .int fm, .int lm])), (w4, .inl (cI, 200, .inl f_32)), (w5, .inl (cI, 200, .inl f_35)), (w6, .inl (cI, 200, .inl (upd ff_ (pl : Int32).toNatClampNeg x_37))), (w7, .inl (cI, 200, .inl fg_))] H := hPn
            have hD : va_D A [(oW, .inr (1, [.ref oC, .ref oK, .ref nw, .ref w1, .ref w2, .ref w3, .ref o7, .ref o8, .ref o9, .ref w4, .ref w5, .ref w6, .ref w7, .int x_3, .int tl, .int fsh, .int wi, .int ri, .int fm, .int lm])), (w4, .inl (cI, 200, .inl f_32)), (w5, .inl (cI, 200, .inl f_35)), (w6, .inl (cI, 200, .inl (upd ff_ (pl : Int32).toNatClampNeg x_37))), (w7, .inl (cI, 200, .inl fg_))] := hDn
            have hS := hSn
            clear hPn hDn hSn
            obtain ⟨f_38, ef_38⟩ : ∃ g : Nat → Int32, g = upd ff_ (pl : Int32).toNatClampNeg x_37 := ⟨_, rfl⟩
            rw [← ef_38] at hP hD
            refine lv_aload_n hx hb dX1_keep_109 rfl (lv_at hl 1 rfl) ?_
            refine va_get (D := (dC, dI)) (ci := 1) (v := .ref w7) (C := RX1) (T := TX1) (N := 20) hx hb hts in_X1 hown hK hP 0 rfl rfl 12 (by decide) (hts (.fieldLink RX1 39 "TextMender$Choices" "lengthOf" "[I") (List.mem_of_getElem? (i := 9) rfl)) (fun _ h9 => h9) rfl dX1_keep_110 ?_
            refine lv_iload hx hb dX1_keep_113 (lv_at hl 0 rfl) ?_
            refine lv_aload_n hx hb dX1_keep_115 rfl (lv_at hl 1 rfl) ?_
            refine va_get (D := (dC, dI)) (ci := 1) (v := .ref w7) (C := RX1) (T := TX1) (N := 20) hx hb hts in_X1 hown hK hP 0 rfl rfl 12 (by decide) (hts (.fieldLink RX1 39 "TextMender$Choices" "lengthOf" "[I") (List.mem_of_getElem? (i := 9) rfl)) (fun _ h9 => h9) rfl dX1_keep_116 ?_
            refine lv_iload hx hb dX1_keep_119 (lv_at hl 0 rfl) ?_
            refine lv_iconst (v := 1) hx hb dX1_keep_121 (by decide) ?_
            refine lv_isub hx hb dX1_keep_122 ?_
            refine lv_topi (fun x_39 ex_39 => ?_)
            have tx_39 : x_39.toInt = pl.toInt - 1 := v_sub ex_39 (by show -2147483648 ≤ pl.toInt - 1; omega) (by show pl.toInt - 1 < 2147483648; omega)
            refine va_iald hx hb hK hP 4 0 rfl rfl (v_in (by omega)) dX1_keep_123 ?_
            refine lv_topi (fun x_40 ex_40 => ?_)
            refine va_iast hx hb hK hP hD hS 4 0 rfl rfl (v_in (by omega)) dX1_keep_124 (fun H locs hPn hDn hSn => ?_)
            clear hP hD hS
            have hP : va_P (dC, dI) vwCl [(oW, .inr (1, [.ref oC, .ref oK, .ref nw, .ref w1, .ref w2, .ref w3, .ref o7, .ref o8, .ref o9, .ref w4, .ref w5, .ref w6, .ref w7, .int x_3, .int tl, .int fsh, .int wi, .int ri, .int fm, .int lm])), (w4, .inl (cI, 200, .inl f_32)), (w5, .inl (cI, 200, .inl f_35)), (w6, .inl (cI, 200, .inl f_38)), (w7, .inl (cI, 200, .inl (upd fg_ (pl : Int32).toNatClampNeg x_40)))] H := hPn
            have hD : va_D A [(oW, .inr (1, [.ref oC, .ref oK, .ref nw, .ref w1, .ref w2, .ref w3, .ref o7, .ref o8, .ref o9, .ref w4, .ref w5, .ref w6, .ref w7, .int x_3, .int tl, .int fsh, .int wi, .int ri, .int fm, .int lm])), (w4, .inl (cI, 200, .inl f_32)), (w5, .inl (cI, 200, .inl f_35)), (w6, .inl (cI, 200, .inl f_38)), (w7, .inl (cI, 200, .inl (upd fg_ (pl : Int32).toNatClampNeg x_40)))] := hDn
            have hS := hSn
            clear hPn hDn hSn
            obtain ⟨f_41, ef_41⟩ : ∃ g : Nat → Int32, g = upd fg_ (pl : Int32).toNatClampNeg x_40 := ⟨_, rfl⟩
            rw [← ef_41] at hP hD
            obtain ⟨x_42, ex_42⟩ : ∃ y : Int32, y = pl + (-1) := ⟨_, rfl⟩
            have tx_42 : x_42.toInt = pl.toInt + (-1) := v_add ex_42 (by show -2147483648 ≤ pl.toInt + (-1); omega) (by show pl.toInt + (-1) < 2147483648; omega)
            refine lv_iinc (v := x_42) (lv' := [(5, .int x_42), (0, .ref oW), (1, .int a), (2, .int b), (3, .int sm), (4, .int ls_)]) hx hb dX1_keep_125 hl (k := 0) rfl (by rw [ex_42]; rfl) (by decide) rfl (fun ls hl => ?_)
            refine lv_goto (tgt := 43) hx hb dX1_keep_128 (by decide) ?_
            exact ih_43 x_42 f_32 f_35 f_38 f_41 _ _ _ (ms_lt hm_43 (by show ((x_42.toInt : Int)) < pl.toInt; omega) (by show (0 : Int) < pl.toInt; omega)) (by show 0 ≤ x_42.toInt ∧ x_42.toInt ≤ 199; omega) (by show x_42.toInt ≤ ke.toInt; omega) (KPL_s4 hkp (by omega) (a0 := x_30) (by omega) (a1 := x_33) (by omega) (a2 := x_36) (by omega) (a3 := x_39) (by omega) ex_31 ex_34 ex_37 ex_40 ef_32 ef_35 ef_38 ef_41 (by omega)) (kp_big hkp hbg (by omega) (by omega) ex_17 (by omega) (by omega)) hP hD hS (lv_sub hl [0, 1, 2, 3, 4, 5] rfl)
    exact LOOP_43 _ x_2 fW4 fW5 fW6 fW7 _ _ _ (ms_s _) (by show 0 ≤ x_2.toInt ∧ x_2.toInt ≤ 199; omega) (by show x_2.toInt ≤ ke.toInt; omega) (KPL_0 rfl) (kp_b0 (j := 0) (q := fW6 0) (by omega) rfl (by omega)) hP hD hS (lv_sub hl [0, 1, 2, 3, 4, 5] rfl)
  · have tc_1 : ke.toInt = 200 := v_eq c_1
    refine lv_iload_n hx hb dX1_keep_10 rfl (lv_at hl 3 rfl) ?_
    refine lv_aload_n hx hb dX1_keep_11 rfl (lv_at hl 0 rfl) ?_
    refine va_get (D := (dC, dI)) (ci := 1) (v := .ref w6) (C := RX1) (T := TX1) (N := 20) hx hb hts in_X1 hown hK hP 0 rfl rfl 11 (by decide) (hts (.fieldLink RX1 36 "TextMender$Choices" "costOf" "[I") (List.mem_of_getElem? (i := 2) rfl)) (fun _ h9 => h9) rfl dX1_keep_12 ?_
    refine lv_sipush (v := 199) hx hb dX1_keep_15 (by decide) ?_
    refine va_iald hx hb hK hP 3 0 rfl rfl (by unfold vp_in; decide) dX1_keep_18 ?_
    refine lv_topi (fun x_43 ex_43 => ?_)
    refine lv_icmp_lt (tgt := 23) hx hb dX1_keep_19 (by decide) (fun c_44 => ?_) (fun c_44 => ?_)
    · have tc_44 : sm.toInt < x_43.toInt := v_lt c_44
      have rw44_0 := v_rng sm
      have rw44_1 := v_rng x_43
      refine lv_aload_n hx hb dX1_keep_23 rfl (lv_at hl 0 rfl) ?_
      refine va_get (D := (dC, dI)) (ci := 1) (v := .int ke) (C := RX1) (T := TX1) (N := 20) hx hb hts in_X1 hown hK hP 0 rfl rfl 13 (by decide) (hts (.fieldLink RX1 65 "TextMender$Choices" "kept" "I") (List.mem_of_getElem? (i := 1) rfl)) (fun _ h9 => h9) rfl dX1_keep_24 ?_
      refine lv_sipush (v := 199) hx hb dX1_keep_27 (by decide) ?_
      refine va_mmin hx hb (by rw [hml]; exact hl.1.symm) hown (hts (.methodLink RX1 135 Lib.Math.min.name) (List.mem_of_getElem? (i := 3) rfl)) (hts (.static Lib.Math.min.name) (List.mem_of_getElem? (i := 4) rfl)) (hts (.initialized "java/lang/Math") (List.mem_of_getElem? (i := 5) rfl)) (hts (.code Lib.Math.min.name Lib.Math.min.code 2 (some .int)) (List.mem_of_getElem? (i := 6) rfl)) (Nat.le_of_ble_eq_true rfl) (Nat.le_of_ble_eq_true rfl) (Nat.zero_le _) (Nat.zero_le _) dX1_keep_30 ?_
      refine lv_topi (fun x_45 ex_45 => ?_)
      have tx_45 : x_45.toInt ≤ ke.toInt ∧ x_45.toInt ≤ 199 ∧ (x_45.toInt = ke.toInt ∨ x_45.toInt = 199) := v_min ex_45
      refine lv_istore (lv' := [(5, .int x_45), (0, .ref oW), (1, .int a), (2, .int b), (3, .int sm), (4, .int ls_)]) hx hb dX1_keep_33 hl (by decide) rfl (fun ls hl => ?_)
      refine lv_aload_n hx hb dX1_keep_35 rfl (lv_at hl 1 rfl) ?_
      refine lv_iload hx hb dX1_keep_36 (lv_at hl 0 rfl) ?_
      refine lv_iconst (v := 1) hx hb dX1_keep_38 (by decide) ?_
      refine lv_iadd hx hb dX1_keep_39 ?_
      refine lv_topi (fun x_46 ex_46 => ?_)
      have tx_46 : x_46.toInt = x_45.toInt + 1 := v_add ex_46 (by show -2147483648 ≤ x_45.toInt + 1; omega) (by show x_45.toInt + 1 < 2147483648; omega)
      refine va_put (D := (dC, dI)) (ci := 1) (v := .int x_46) (ty := .int) (C := RX1) (T := TX1) (N := 20) hx hb hts in_X1 tyX1 tyX1_ok nmX1 hown hK hP hD hS 0 rfl rfl 13 (by decide) (hts (.fieldLink RX1 65 "TextMender$Choices" "kept" "I") (List.mem_of_getElem? (i := 1) rfl)) (fun _ h9 => h9) rfl (by decide +kernel) rfl rfl (Nat.le_of_ble_eq_true rfl) dX1_keep_40 (fun H locs hPn hDn hSn => ?_)
      clear hP hD hS
      have hP : va_P (dC, dI) vwCl [(oW, .inr (1, [.ref oC, .ref oK, .ref nw, .ref w1, .ref w2, .ref w3, .ref o7, .ref o8, .ref o9, .ref w4, .ref w5, .ref w6, .ref w7, .int x_46, .int tl, .int fsh, .int wi, .int ri, .int fm, .int lm])), (w4, .inl (cI, 200, .inl fW4)), (w5, .inl (cI, 200, .inl fW5)), (w6, .inl (cI, 200, .inl fW6)), (w7, .inl (cI, 200, .inl fW7))] H := hPn
      have hD : va_D A [(oW, .inr (1, [.ref oC, .ref oK, .ref nw, .ref w1, .ref w2, .ref w3, .ref o7, .ref o8, .ref o9, .ref w4, .ref w5, .ref w6, .ref w7, .int x_46, .int tl, .int fsh, .int wi, .int ri, .int fm, .int lm])), (w4, .inl (cI, 200, .inl fW4)), (w5, .inl (cI, 200, .inl fW5)), (w6, .inl (cI, 200, .inl fW6)), (w7, .inl (cI, 200, .inl fW7))] := hDn
      have hS := hSn
      clear hPn hDn hSn
      have LOOP_43 : ∀ (k_43 : Nat) (pl : Int32) (fd_ : Nat → Int32) (fe_ : Nat → Int32) (ff_ : Nat → Int32) (fg_ : Nat → Int32) (H : Heap) (locs : List Loc) (ls : Array Slot), MSd (pl.toInt : Int) k_43 → (0 ≤ pl.toInt ∧ pl.toInt ≤ 199) → (pl.toInt ≤ ke.toInt) → (KPL fW4 fW5 fW6 fW7 fd_ fe_ ff_ fg_ pl.toInt (x_45.toInt)) → (∀ i : Nat, pl.toInt ≤ i → i < ke.toNatClampNeg → sm.toInt < CA fW4 fW5 fW6 fW7 i 2) → va_P (dC, dI) vwCl [(oW, .inr (1, [.ref oC, .ref oK, .ref nw, .ref w1, .ref w2, .ref w3, .ref o7, .ref o8, .ref o9, .ref w4, .ref w5, .ref w6, .ref w7, .int x_46, .int tl, .int fsh, .int wi, .int ri, .int fm, .int lm])), (w4, .inl (cI, 200, .inl fd_)), (w5, .inl (cI, 200, .inl fe_)), (w6, .inl (cI, 200, .inl ff_)), (w7, .inl (cI, 200, .inl fg_))] H → va_D A [(oW, .inr (1, [.ref oC, .ref oK, .ref nw, .ref w1, .ref w2, .ref w3, .ref o7, .ref o8, .ref o9, .ref w4, .ref w5, .ref w6, .ref w7, .int x_46, .int tl, .int fsh, .int wi, .int ri, .int fm, .int lm])), (w4, .inl (cI, 200, .inl fd_)), (w5, .inl (cI, 200, .inl fe_)), (w6, .inl (cI, 200, .inl ff_)), (w7, .inl (cI, 200, .inl fg_))] → va_S A s.heap H locs → lv_has ls 6 [(5, .int pl), (0, .ref oW), (1, .int a), (2, .int b), (3, .int sm), (4, .int ls_)] → W p l e (headSpec wsX1_keep ({ frames := 1, cells := 0, slots := 0, locals := 21 } : Room)).room s m ([.ref oW, .int a, .int b, .int sm, .int ls_] : List Value).toArray below meth c H locs 0 0 (MQ below QQ ([.ref oW, .int a, .int b, .int sm, .int ls_] : List Value).toArray s 0 0 A) (F0 m 43 ls []) := by
        clear hP hD hS hl
        intro k_43
        induction k_43 with
        | zero =>
          intro pl fd_ fe_ ff_ fg_ H locs ls hm_43 g_pl hpk hkp hbg hP hD hS hl
          exact ms_0 hm_43
        | succ k_43 ih_43 =>
          intro pl fd_ fe_ ff_ fg_ H locs ls hm_43 g_pl hpk hkp hbg hP hD hS hl
          refine lv_iload hx hb dX1_keep_43 (lv_at hl 0 rfl) ?_
          refine lv_if_le (tgt := 131) hx hb dX1_keep_45 (by decide) (fun c_47 => ?_) (fun c_47 => ?_)
          · have tc_47 : pl.toInt ≤ 0 := v_le c_47
            refine lv_aload_n hx hb dX1_keep_131 rfl (lv_at hl 1 rfl) ?_
            refine va_get (D := (dC, dI)) (ci := 1) (v := .ref w4) (C := RX1) (T := TX1) (N := 20) hx hb hts in_X1 hown hK hP 0 rfl rfl 9 (by decide) (hts (.fieldLink RX1 30 "TextMender$Choices" "firstByte" "[I") (List.mem_of_getElem? (i := 7) rfl)) (fun _ h9 => h9) rfl dX1_keep_132 ?_
            refine lv_iload hx hb dX1_keep_135 (lv_at hl 0 rfl) ?_
            refine lv_iload_n hx hb dX1_keep_137 rfl (lv_at hl 2 rfl) ?_
            refine lv_iconst (v := (-1)) hx hb dX1_keep_138 (by decide) ?_
            refine lv_icmp_ne (tgt := 146) hx hb dX1_keep_139 (by decide) (fun c_48 => ?_) (fun c_48 => ?_)
            · have tc_48 : ¬ a.toInt = (-1) := v_ne c_48
              refine lv_iload_n hx hb dX1_keep_146 rfl (lv_at hl 2 rfl) ?_
              refine va_iast hx hb hK hP hD hS 1 0 rfl rfl (v_in (by omega)) dX1_keep_147 (fun H locs hPn hDn hSn => ?_)
              clear hP hD hS
              have hP : va_P (dC, dI) vwCl [(oW, .inr (1, [.ref oC, .ref oK, .ref nw, .ref w1, .ref w2, .ref w3, .ref o7, .ref o8, .ref o9, .ref w4, .ref w5, .ref w6, .ref w7, .int x_46, .int tl, .int fsh, .int wi, .int ri, .int fm, .int lm])), (w4, .inl (cI, 200, .inl (upd fd_ (pl : Int32).toNatClampNeg a))), (w5, .inl (cI, 200, .inl fe_)), (w6, .inl (cI, 200, .inl ff_)), (w7, .inl (cI, 200, .inl fg_))] H := hPn
              have hD : va_D A [(oW, .inr (1, [.ref oC, .ref oK, .ref nw, .ref w1, .ref w2, .ref w3, .ref o7, .ref o8, .ref o9, .ref w4, .ref w5, .ref w6, .ref w7, .int x_46, .int tl, .int fsh, .int wi, .int ri, .int fm, .int lm])), (w4, .inl (cI, 200, .inl (upd fd_ (pl : Int32).toNatClampNeg a))), (w5, .inl (cI, 200, .inl fe_)), (w6, .inl (cI, 200, .inl ff_)), (w7, .inl (cI, 200, .inl fg_))] := hDn
              have hS := hSn
              clear hPn hDn hSn
              obtain ⟨f_49, ef_49⟩ : ∃ g : Nat → Int32, g = upd fd_ (pl : Int32).toNatClampNeg a := ⟨_, rfl⟩
              rw [← ef_49] at hP hD
              refine lv_aload_n hx hb dX1_keep_148 rfl (lv_at hl 1 rfl) ?_
              refine va_get (D := (dC, dI)) (ci := 1) (v := .ref w5) (C := RX1) (T := TX1) (N := 20) hx hb hts in_X1 hown hK hP 0 rfl rfl 10 (by decide) (hts (.fieldLink RX1 33 "TextMender$Choices" "secondByte" "[I") (List.mem_of_getElem? (i := 8) rfl)) (fun _ h9 => h9) rfl dX1_keep_149 ?_
              refine lv_iload hx hb dX1_keep_152 (lv_at hl 0 rfl) ?_
              refine lv_iload_n hx hb dX1_keep_154 rfl (lv_at hl 2 rfl) ?_
              refine lv_iconst (v := (-1)) hx hb dX1_keep_155 (by decide) ?_
              refine lv_icmp_ne (tgt := 163) hx hb dX1_keep_156 (by decide) (fun c_50 => ?_) (fun c_50 => by exfalso; have tc_50 : a.toInt = (-1) := v_eq c_50; omega)
              have tc_50 : ¬ a.toInt = (-1) := v_ne c_50
              refine lv_iload_n hx hb dX1_keep_163 rfl (lv_at hl 3 rfl) ?_
              refine va_iast hx hb hK hP hD hS 2 0 rfl rfl (v_in (by omega)) dX1_keep_164 (fun H locs hPn hDn hSn => ?_)
              clear hP hD hS
              have hP : va_P (dC, dI) vwCl [(oW, .inr (1, [.ref oC, .ref oK, .ref nw, .ref w1, .ref w2, .ref w3, .ref o7, .ref o8, .ref o9, .ref w4, .ref w5, .ref w6, .ref w7, .int x_46, .int tl, .int fsh, .int wi, .int ri, .int fm, .int lm])), (w4, .inl (cI, 200, .inl f_49)), (w5, .inl (cI, 200, .inl (upd fe_ (pl : Int32).toNatClampNeg b))), (w6, .inl (cI, 200, .inl ff_)), (w7, .inl (cI, 200, .inl fg_))] H := hPn
              have hD : va_D A [(oW, .inr (1, [.ref oC, .ref oK, .ref nw, .ref w1, .ref w2, .ref w3, .ref o7, .ref o8, .ref o9, .ref w4, .ref w5, .ref w6, .ref w7, .int x_46, .int tl, .int fsh, .int wi, .int ri, .int fm, .int lm])), (w4, .inl (cI, 200, .inl f_49)), (w5, .inl (cI, 200, .inl (upd fe_ (pl : Int32).toNatClampNeg b))), (w6, .inl (cI, 200, .inl ff_)), (w7, .inl (cI, 200, .inl fg_))] := hDn
              have hS := hSn
              clear hPn hDn hSn
              obtain ⟨f_51, ef_51⟩ : ∃ g : Nat → Int32, g = upd fe_ (pl : Int32).toNatClampNeg b := ⟨_, rfl⟩
              rw [← ef_51] at hP hD
              refine lv_aload_n hx hb dX1_keep_165 rfl (lv_at hl 1 rfl) ?_
              refine va_get (D := (dC, dI)) (ci := 1) (v := .ref w6) (C := RX1) (T := TX1) (N := 20) hx hb hts in_X1 hown hK hP 0 rfl rfl 11 (by decide) (hts (.fieldLink RX1 36 "TextMender$Choices" "costOf" "[I") (List.mem_of_getElem? (i := 2) rfl)) (fun _ h9 => h9) rfl dX1_keep_166 ?_
              refine lv_iload hx hb dX1_keep_169 (lv_at hl 0 rfl) ?_
              refine lv_iload_n hx hb dX1_keep_171 rfl (lv_at hl 4 rfl) ?_
              refine va_iast hx hb hK hP hD hS 3 0 rfl rfl (v_in (by omega)) dX1_keep_172 (fun H locs hPn hDn hSn => ?_)
              clear hP hD hS
              have hP : va_P (dC, dI) vwCl [(oW, .inr (1, [.ref oC, .ref oK, .ref nw, .ref w1, .ref w2, .ref w3, .ref o7, .ref o8, .ref o9, .ref w4, .ref w5, .ref w6, .ref w7, .int x_46, .int tl, .int fsh, .int wi, .int ri, .int fm, .int lm])), (w4, .inl (cI, 200, .inl f_49)), (w5, .inl (cI, 200, .inl f_51)), (w6, .inl (cI, 200, .inl (upd ff_ (pl : Int32).toNatClampNeg sm))), (w7, .inl (cI, 200, .inl fg_))] H := hPn
              have hD : va_D A [(oW, .inr (1, [.ref oC, .ref oK, .ref nw, .ref w1, .ref w2, .ref w3, .ref o7, .ref o8, .ref o9, .ref w4, .ref w5, .ref w6, .ref w7, .int x_46, .int tl, .int fsh, .int wi, .int ri, .int fm, .int lm])), (w4, .inl (cI, 200, .inl f_49)), (w5, .inl (cI, 200, .inl f_51)), (w6, .inl (cI, 200, .inl (upd ff_ (pl : Int32).toNatClampNeg sm))), (w7, .inl (cI, 200, .inl fg_))] := hDn
              have hS := hSn
              clear hPn hDn hSn
              obtain ⟨f_52, ef_52⟩ : ∃ g : Nat → Int32, g = upd ff_ (pl : Int32).toNatClampNeg sm := ⟨_, rfl⟩
              rw [← ef_52] at hP hD
              refine lv_aload_n hx hb dX1_keep_173 rfl (lv_at hl 1 rfl) ?_
              refine va_get (D := (dC, dI)) (ci := 1) (v := .ref w7) (C := RX1) (T := TX1) (N := 20) hx hb hts in_X1 hown hK hP 0 rfl rfl 12 (by decide) (hts (.fieldLink RX1 39 "TextMender$Choices" "lengthOf" "[I") (List.mem_of_getElem? (i := 9) rfl)) (fun _ h9 => h9) rfl dX1_keep_174 ?_
              refine lv_iload hx hb dX1_keep_177 (lv_at hl 0 rfl) ?_
              refine lv_iload hx hb dX1_keep_179 (lv_at hl 5 rfl) ?_
              refine va_iast hx hb hK hP hD hS 4 0 rfl rfl (v_in (by omega)) dX1_keep_181 (fun H locs hPn hDn hSn => ?_)
              clear hP hD hS
              have hP : va_P (dC, dI) vwCl [(oW, .inr (1, [.ref oC, .ref oK, .ref nw, .ref w1, .ref w2, .ref w3, .ref o7, .ref o8, .ref o9, .ref w4, .ref w5, .ref w6, .ref w7, .int x_46, .int tl, .int fsh, .int wi, .int ri, .int fm, .int lm])), (w4, .inl (cI, 200, .inl f_49)), (w5, .inl (cI, 200, .inl f_51)), (w6, .inl (cI, 200, .inl f_52)), (w7, .inl (cI, 200, .inl (upd fg_ (pl : Int32).toNatClampNeg ls_)))] H := hPn
              have hD : va_D A [(oW, .inr (1, [.ref oC, .ref oK, .ref nw, .ref w1, .ref w2, .ref w3, .ref o7, .ref o8, .ref o9, .ref w4, .ref w5, .ref w6, .ref w7, .int x_46, .int tl, .int fsh, .int wi, .int ri, .int fm, .int lm])), (w4, .inl (cI, 200, .inl f_49)), (w5, .inl (cI, 200, .inl f_51)), (w6, .inl (cI, 200, .inl f_52)), (w7, .inl (cI, 200, .inl (upd fg_ (pl : Int32).toNatClampNeg ls_)))] := hDn
              have hS := hSn
              clear hPn hDn hSn
              obtain ⟨f_53, ef_53⟩ : ∃ g : Nat → Int32, g = upd fg_ (pl : Int32).toNatClampNeg ls_ := ⟨_, rfl⟩
              rw [← ef_53] at hP hD
              have hP9 := hP.sub (ws' := [(oW, .inr (1, [.ref oC, .ref oK, .ref nw, .ref w1, .ref w2, .ref w3, .ref o7, .ref o8, .ref o9, .ref w4, .ref w5, .ref w6, .ref w7, .int x_46, .int tl, .int fsh, .int wi, .int ri, .int fm, .int lm])), (w4, .inl (cI, 200, .inl f_49)), (w5, .inl (cI, 200, .inl f_51)), (w6, .inl (cI, 200, .inl f_52)), (w7, .inl (cI, 200, .inl f_53))]) [0, 1, 2, 3, 4] rfl
              have hD9 := hD.sub (ws' := [(oW, .inr (1, [.ref oC, .ref oK, .ref nw, .ref w1, .ref w2, .ref w3, .ref o7, .ref o8, .ref o9, .ref w4, .ref w5, .ref w6, .ref w7, .int x_46, .int tl, .int fsh, .int wi, .int ri, .int fm, .int lm])), (w4, .inl (cI, 200, .inl f_49)), (w5, .inl (cI, 200, .inl f_51)), (w6, .inl (cI, 200, .inl f_52)), (w7, .inl (cI, 200, .inl f_53))]) [0, 1, 2, 3, 4] (by decide +kernel) rfl
              rw [hQQ]
              exact W.vret hx hb hr (fun t ht hW => ⟨⟨(), rfl, trivial, ⟨x_46, f_49, f_51, f_52, f_53, by rw [ht]; exact hP9, hD9, by omega, by show (ke.toInt < 200 ∧ x_46.toInt = ke.toInt + 1) ∨ (ke.toInt = 200 ∧ x_46.toInt = 200); omega, kp_end hkp hsr (by omega) (by omega) (by have c8 := v_clamp (x := x_46) (by omega); omega) ef_49 ef_51 ef_52 ef_53 (by show _ = (if a.toInt = -1 then b.toInt else a.toInt); rw [if_neg (by omega)]) (by show _ = (if a.toInt = -1 then -1 else b.toInt); rw [if_neg (by omega)]) rfl rfl hbg (Or.inl (by omega))⟩⟩, hS.F ht⟩) hS.2.2 dX1_keep_182
            · have tc_48 : a.toInt = (-1) := v_eq c_48
              refine lv_iload_n hx hb dX1_keep_142 rfl (lv_at hl 3 rfl) ?_
              refine lv_goto (tgt := 147) hx hb dX1_keep_143 (by decide) ?_
              refine va_iast hx hb hK hP hD hS 1 0 rfl rfl (v_in (by omega)) dX1_keep_147 (fun H locs hPn hDn hSn => ?_)
              clear hP hD hS
              have hP : va_P (dC, dI) vwCl [(oW, .inr (1, [.ref oC, .ref oK, .ref nw, .ref w1, .ref w2, .ref w3, .ref o7, .ref o8, .ref o9, .ref w4, .ref w5, .ref w6, .ref w7, .int x_46, .int tl, .int fsh, .int wi, .int ri, .int fm, .int lm])), (w4, .inl (cI, 200, .inl (upd fd_ (pl : Int32).toNatClampNeg b))), (w5, .inl (cI, 200, .inl fe_)), (w6, .inl (cI, 200, .inl ff_)), (w7, .inl (cI, 200, .inl fg_))] H := hPn
              have hD : va_D A [(oW, .inr (1, [.ref oC, .ref oK, .ref nw, .ref w1, .ref w2, .ref w3, .ref o7, .ref o8, .ref o9, .ref w4, .ref w5, .ref w6, .ref w7, .int x_46, .int tl, .int fsh, .int wi, .int ri, .int fm, .int lm])), (w4, .inl (cI, 200, .inl (upd fd_ (pl : Int32).toNatClampNeg b))), (w5, .inl (cI, 200, .inl fe_)), (w6, .inl (cI, 200, .inl ff_)), (w7, .inl (cI, 200, .inl fg_))] := hDn
              have hS := hSn
              clear hPn hDn hSn
              obtain ⟨f_54, ef_54⟩ : ∃ g : Nat → Int32, g = upd fd_ (pl : Int32).toNatClampNeg b := ⟨_, rfl⟩
              rw [← ef_54] at hP hD
              refine lv_aload_n hx hb dX1_keep_148 rfl (lv_at hl 1 rfl) ?_
              refine va_get (D := (dC, dI)) (ci := 1) (v := .ref w5) (C := RX1) (T := TX1) (N := 20) hx hb hts in_X1 hown hK hP 0 rfl rfl 10 (by decide) (hts (.fieldLink RX1 33 "TextMender$Choices" "secondByte" "[I") (List.mem_of_getElem? (i := 8) rfl)) (fun _ h9 => h9) rfl dX1_keep_149 ?_
              refine lv_iload hx hb dX1_keep_152 (lv_at hl 0 rfl) ?_
              refine lv_iload_n hx hb dX1_keep_154 rfl (lv_at hl 2 rfl) ?_
              refine lv_iconst (v := (-1)) hx hb dX1_keep_155 (by decide) ?_
              refine lv_icmp_ne (tgt := 163) hx hb dX1_keep_156 (by decide) (fun c_55 => by exfalso; have tc_55 : ¬ a.toInt = (-1) := v_ne c_55; omega) (fun c_55 => ?_)
              have tc_55 : a.toInt = (-1) := v_eq c_55
              refine lv_iconst (v := (-1)) hx hb dX1_keep_159 (by decide) ?_
              refine lv_goto (tgt := 164) hx hb dX1_keep_160 (by decide) ?_
              refine va_iast hx hb hK hP hD hS 2 0 rfl rfl (v_in (by omega)) dX1_keep_164 (fun H locs hPn hDn hSn => ?_)
              clear hP hD hS
              have hP : va_P (dC, dI) vwCl [(oW, .inr (1, [.ref oC, .ref oK, .ref nw, .ref w1, .ref w2, .ref w3, .ref o7, .ref o8, .ref o9, .ref w4, .ref w5, .ref w6, .ref w7, .int x_46, .int tl, .int fsh, .int wi, .int ri, .int fm, .int lm])), (w4, .inl (cI, 200, .inl f_54)), (w5, .inl (cI, 200, .inl (upd fe_ (pl : Int32).toNatClampNeg (-1)))), (w6, .inl (cI, 200, .inl ff_)), (w7, .inl (cI, 200, .inl fg_))] H := hPn
              have hD : va_D A [(oW, .inr (1, [.ref oC, .ref oK, .ref nw, .ref w1, .ref w2, .ref w3, .ref o7, .ref o8, .ref o9, .ref w4, .ref w5, .ref w6, .ref w7, .int x_46, .int tl, .int fsh, .int wi, .int ri, .int fm, .int lm])), (w4, .inl (cI, 200, .inl f_54)), (w5, .inl (cI, 200, .inl (upd fe_ (pl : Int32).toNatClampNeg (-1)))), (w6, .inl (cI, 200, .inl ff_)), (w7, .inl (cI, 200, .inl fg_))] := hDn
              have hS := hSn
              clear hPn hDn hSn
              obtain ⟨f_56, ef_56⟩ : ∃ g : Nat → Int32, g = upd fe_ (pl : Int32).toNatClampNeg (-1) := ⟨_, rfl⟩
              rw [← ef_56] at hP hD
              refine lv_aload_n hx hb dX1_keep_165 rfl (lv_at hl 1 rfl) ?_
              refine va_get (D := (dC, dI)) (ci := 1) (v := .ref w6) (C := RX1) (T := TX1) (N := 20) hx hb hts in_X1 hown hK hP 0 rfl rfl 11 (by decide) (hts (.fieldLink RX1 36 "TextMender$Choices" "costOf" "[I") (List.mem_of_getElem? (i := 2) rfl)) (fun _ h9 => h9) rfl dX1_keep_166 ?_
              refine lv_iload hx hb dX1_keep_169 (lv_at hl 0 rfl) ?_
              refine lv_iload_n hx hb dX1_keep_171 rfl (lv_at hl 4 rfl) ?_
              refine va_iast hx hb hK hP hD hS 3 0 rfl rfl (v_in (by omega)) dX1_keep_172 (fun H locs hPn hDn hSn => ?_)
              clear hP hD hS
              have hP : va_P (dC, dI) vwCl [(oW, .inr (1, [.ref oC, .ref oK, .ref nw, .ref w1, .ref w2, .ref w3, .ref o7, .ref o8, .ref o9, .ref w4, .ref w5, .ref w6, .ref w7, .int x_46, .int tl, .int fsh, .int wi, .int ri, .int fm, .int lm])), (w4, .inl (cI, 200, .inl f_54)), (w5, .inl (cI, 200, .inl f_56)), (w6, .inl (cI, 200, .inl (upd ff_ (pl : Int32).toNatClampNeg sm))), (w7, .inl (cI, 200, .inl fg_))] H := hPn
              have hD : va_D A [(oW, .inr (1, [.ref oC, .ref oK, .ref nw, .ref w1, .ref w2, .ref w3, .ref o7, .ref o8, .ref o9, .ref w4, .ref w5, .ref w6, .ref w7, .int x_46, .int tl, .int fsh, .int wi, .int ri, .int fm, .int lm])), (w4, .inl (cI, 200, .inl f_54)), (w5, .inl (cI, 200, .inl f_56)), (w6, .inl (cI, 200, .inl (upd ff_ (pl : Int32).toNatClampNeg sm))), (w7, .inl (cI, 200, .inl fg_))] := hDn
              have hS := hSn
              clear hPn hDn hSn
              obtain ⟨f_57, ef_57⟩ : ∃ g : Nat → Int32, g = upd ff_ (pl : Int32).toNatClampNeg sm := ⟨_, rfl⟩
              rw [← ef_57] at hP hD
              refine lv_aload_n hx hb dX1_keep_173 rfl (lv_at hl 1 rfl) ?_
              refine va_get (D := (dC, dI)) (ci := 1) (v := .ref w7) (C := RX1) (T := TX1) (N := 20) hx hb hts in_X1 hown hK hP 0 rfl rfl 12 (by decide) (hts (.fieldLink RX1 39 "TextMender$Choices" "lengthOf" "[I") (List.mem_of_getElem? (i := 9) rfl)) (fun _ h9 => h9) rfl dX1_keep_174 ?_
              refine lv_iload hx hb dX1_keep_177 (lv_at hl 0 rfl) ?_
              refine lv_iload hx hb dX1_keep_179 (lv_at hl 5 rfl) ?_
              refine va_iast hx hb hK hP hD hS 4 0 rfl rfl (v_in (by omega)) dX1_keep_181 (fun H locs hPn hDn hSn => ?_)
              clear hP hD hS
              have hP : va_P (dC, dI) vwCl [(oW, .inr (1, [.ref oC, .ref oK, .ref nw, .ref w1, .ref w2, .ref w3, .ref o7, .ref o8, .ref o9, .ref w4, .ref w5, .ref w6, .ref w7, .int x_46, .int tl, .int fsh, .int wi, .int ri, .int fm, .int lm])), (w4, .inl (cI, 200, .inl f_54)), (w5, .inl (cI, 200, .inl f_56)), (w6, .inl (cI, 200, .inl f_57)), (w7, .inl (cI, 200, .inl (upd fg_ (pl : Int32).toNatClampNeg ls_)))] H := hPn
              have hD : va_D A [(oW, .inr (1, [.ref oC, .ref oK, .ref nw, .ref w1, .ref w2, .ref w3, .ref o7, .ref o8, .ref o9, .ref w4, .ref w5, .ref w6, .ref w7, .int x_46, .int tl, .int fsh, .int wi, .int ri, .int fm, .int lm])), (w4, .inl (cI, 200, .inl f_54)), (w5, .inl (cI, 200, .inl f_56)), (w6, .inl (cI, 200, .inl f_57)), (w7, .inl (cI, 200, .inl (upd fg_ (pl : Int32).toNatClampNeg ls_)))] := hDn
              have hS := hSn
              clear hPn hDn hSn
              obtain ⟨f_58, ef_58⟩ : ∃ g : Nat → Int32, g = upd fg_ (pl : Int32).toNatClampNeg ls_ := ⟨_, rfl⟩
              rw [← ef_58] at hP hD
              have hP9 := hP.sub (ws' := [(oW, .inr (1, [.ref oC, .ref oK, .ref nw, .ref w1, .ref w2, .ref w3, .ref o7, .ref o8, .ref o9, .ref w4, .ref w5, .ref w6, .ref w7, .int x_46, .int tl, .int fsh, .int wi, .int ri, .int fm, .int lm])), (w4, .inl (cI, 200, .inl f_54)), (w5, .inl (cI, 200, .inl f_56)), (w6, .inl (cI, 200, .inl f_57)), (w7, .inl (cI, 200, .inl f_58))]) [0, 1, 2, 3, 4] rfl
              have hD9 := hD.sub (ws' := [(oW, .inr (1, [.ref oC, .ref oK, .ref nw, .ref w1, .ref w2, .ref w3, .ref o7, .ref o8, .ref o9, .ref w4, .ref w5, .ref w6, .ref w7, .int x_46, .int tl, .int fsh, .int wi, .int ri, .int fm, .int lm])), (w4, .inl (cI, 200, .inl f_54)), (w5, .inl (cI, 200, .inl f_56)), (w6, .inl (cI, 200, .inl f_57)), (w7, .inl (cI, 200, .inl f_58))]) [0, 1, 2, 3, 4] (by decide +kernel) rfl
              rw [hQQ]
              exact W.vret hx hb hr (fun t ht hW => ⟨⟨(), rfl, trivial, ⟨x_46, f_54, f_56, f_57, f_58, by rw [ht]; exact hP9, hD9, by omega, by show (ke.toInt < 200 ∧ x_46.toInt = ke.toInt + 1) ∨ (ke.toInt = 200 ∧ x_46.toInt = 200); omega, kp_end hkp hsr (by omega) (by omega) (by have c8 := v_clamp (x := x_46) (by omega); omega) ef_54 ef_56 ef_57 ef_58 (by show _ = (if a.toInt = -1 then b.toInt else a.toInt); rw [if_pos (by omega)]) (by show _ = (if a.toInt = -1 then -1 else b.toInt); rw [if_pos (by omega)]; rfl) rfl rfl hbg (Or.inl (by omega))⟩⟩, hS.F ht⟩) hS.2.2 dX1_keep_182
          · have tc_47 : 0 < pl.toInt := v_nle c_47
            refine lv_aload_n hx hb dX1_keep_48 rfl (lv_at hl 1 rfl) ?_
            refine va_get (D := (dC, dI)) (ci := 1) (v := .ref w6) (C := RX1) (T := TX1) (N := 20) hx hb hts in_X1 hown hK hP 0 rfl rfl 11 (by decide) (hts (.fieldLink RX1 36 "TextMender$Choices" "costOf" "[I") (List.mem_of_getElem? (i := 2) rfl)) (fun _ h9 => h9) rfl dX1_keep_49 ?_
            refine lv_iload hx hb dX1_keep_52 (lv_at hl 0 rfl) ?_
            refine lv_iconst (v := 1) hx hb dX1_keep_54 (by decide) ?_
            refine lv_isub hx hb dX1_keep_55 ?_
            refine lv_topi (fun x_59 ex_59 => ?_)
            have tx_59 : x_59.toInt = pl.toInt - 1 := v_sub ex_59 (by show -2147483648 ≤ pl.toInt - 1; omega) (by show pl.toInt - 1 < 2147483648; omega)
            refine va_iald hx hb hK hP 3 0 rfl rfl (v_in (by omega)) dX1_keep_56 ?_
            refine lv_topi (fun x_60 ex_60 => ?_)
            refine lv_iload_n hx hb dX1_keep_57 rfl (lv_at hl 4 rfl) ?_
            refine lv_icmp_le (tgt := 131) hx hb dX1_keep_58 (by decide) (fun c_61 => ?_) (fun c_61 => ?_)
            · have tc_61 : x_60.toInt ≤ sm.toInt := v_le c_61
              have rw61_0 := v_rng x_60
              refine lv_aload_n hx hb dX1_keep_131 rfl (lv_at hl 1 rfl) ?_
              refine va_get (D := (dC, dI)) (ci := 1) (v := .ref w4) (C := RX1) (T := TX1) (N := 20) hx hb hts in_X1 hown hK hP 0 rfl rfl 9 (by decide) (hts (.fieldLink RX1 30 "TextMender$Choices" "firstByte" "[I") (List.mem_of_getElem? (i := 7) rfl)) (fun _ h9 => h9) rfl dX1_keep_132 ?_
              refine lv_iload hx hb dX1_keep_135 (lv_at hl 0 rfl) ?_
              refine lv_iload_n hx hb dX1_keep_137 rfl (lv_at hl 2 rfl) ?_
              refine lv_iconst (v := (-1)) hx hb dX1_keep_138 (by decide) ?_
              refine lv_icmp_ne (tgt := 146) hx hb dX1_keep_139 (by decide) (fun c_62 => ?_) (fun c_62 => ?_)
              · have tc_62 : ¬ a.toInt = (-1) := v_ne c_62
                refine lv_iload_n hx hb dX1_keep_146 rfl (lv_at hl 2 rfl) ?_
                refine va_iast hx hb hK hP hD hS 1 0 rfl rfl (v_in (by omega)) dX1_keep_147 (fun H locs hPn hDn hSn => ?_)
                clear hP hD hS
                have hP : va_P (dC, dI) vwCl [(oW, .inr (1, [.ref oC, .ref oK, .ref nw, .ref w1, .ref w2, .ref w3, .ref o7, .ref o8, .ref o9, .ref w4, .ref w5, .ref w6, .ref w7, .int x_46, .int tl, .int fsh, .int wi, .int ri, .int fm, .int lm])), (w4, .inl (cI, 200, .inl (upd fd_ (pl : Int32).toNatClampNeg a))), (w5, .inl (cI, 200, .inl fe_)), (w6, .inl (cI, 200, .inl ff_)), (w7, .inl (cI, 200, .inl fg_))] H := hPn
                have hD : va_D A [(oW, .inr (1, [.ref oC, .ref oK, .ref nw, .ref w1, .ref w2, .ref w3, .ref o7, .ref o8, .ref o9, .ref w4, .ref w5, .ref w6, .ref w7, .int x_46, .int tl, .int fsh, .int wi, .int ri, .int fm, .int lm])), (w4, .inl (cI, 200, .inl (upd fd_ (pl : Int32).toNatClampNeg a))), (w5, .inl (cI, 200, .inl fe_)), (w6, .inl (cI, 200, .inl ff_)), (w7, .inl (cI, 200, .inl fg_))] := hDn
                have hS := hSn
                clear hPn hDn hSn
                obtain ⟨f_63, ef_63⟩ : ∃ g : Nat → Int32, g = upd fd_ (pl : Int32).toNatClampNeg a := ⟨_, rfl⟩
                rw [← ef_63] at hP hD
                refine lv_aload_n hx hb dX1_keep_148 rfl (lv_at hl 1 rfl) ?_
                refine va_get (D := (dC, dI)) (ci := 1) (v := .ref w5) (C := RX1) (T := TX1) (N := 20) hx hb hts in_X1 hown hK hP 0 rfl rfl 10 (by decide) (hts (.fieldLink RX1 33 "TextMender$Choices" "secondByte" "[I") (List.mem_of_getElem? (i := 8) rfl)) (fun _ h9 => h9) rfl dX1_keep_149 ?_
                refine lv_iload hx hb dX1_keep_152 (lv_at hl 0 rfl) ?_
                refine lv_iload_n hx hb dX1_keep_154 rfl (lv_at hl 2 rfl) ?_
                refine lv_iconst (v := (-1)) hx hb dX1_keep_155 (by decide) ?_
                refine lv_icmp_ne (tgt := 163) hx hb dX1_keep_156 (by decide) (fun c_64 => ?_) (fun c_64 => by exfalso; have tc_64 : a.toInt = (-1) := v_eq c_64; omega)
                have tc_64 : ¬ a.toInt = (-1) := v_ne c_64
                refine lv_iload_n hx hb dX1_keep_163 rfl (lv_at hl 3 rfl) ?_
                refine va_iast hx hb hK hP hD hS 2 0 rfl rfl (v_in (by omega)) dX1_keep_164 (fun H locs hPn hDn hSn => ?_)
                clear hP hD hS
                have hP : va_P (dC, dI) vwCl [(oW, .inr (1, [.ref oC, .ref oK, .ref nw, .ref w1, .ref w2, .ref w3, .ref o7, .ref o8, .ref o9, .ref w4, .ref w5, .ref w6, .ref w7, .int x_46, .int tl, .int fsh, .int wi, .int ri, .int fm, .int lm])), (w4, .inl (cI, 200, .inl f_63)), (w5, .inl (cI, 200, .inl (upd fe_ (pl : Int32).toNatClampNeg b))), (w6, .inl (cI, 200, .inl ff_)), (w7, .inl (cI, 200, .inl fg_))] H := hPn
                have hD : va_D A [(oW, .inr (1, [.ref oC, .ref oK, .ref nw, .ref w1, .ref w2, .ref w3, .ref o7, .ref o8, .ref o9, .ref w4, .ref w5, .ref w6, .ref w7, .int x_46, .int tl, .int fsh, .int wi, .int ri, .int fm, .int lm])), (w4, .inl (cI, 200, .inl f_63)), (w5, .inl (cI, 200, .inl (upd fe_ (pl : Int32).toNatClampNeg b))), (w6, .inl (cI, 200, .inl ff_)), (w7, .inl (cI, 200, .inl fg_))] := hDn
                have hS := hSn
                clear hPn hDn hSn
                obtain ⟨f_65, ef_65⟩ : ∃ g : Nat → Int32, g = upd fe_ (pl : Int32).toNatClampNeg b := ⟨_, rfl⟩
                rw [← ef_65] at hP hD
                refine lv_aload_n hx hb dX1_keep_165 rfl (lv_at hl 1 rfl) ?_
                refine va_get (D := (dC, dI)) (ci := 1) (v := .ref w6) (C := RX1) (T := TX1) (N := 20) hx hb hts in_X1 hown hK hP 0 rfl rfl 11 (by decide) (hts (.fieldLink RX1 36 "TextMender$Choices" "costOf" "[I") (List.mem_of_getElem? (i := 2) rfl)) (fun _ h9 => h9) rfl dX1_keep_166 ?_
                refine lv_iload hx hb dX1_keep_169 (lv_at hl 0 rfl) ?_
                refine lv_iload_n hx hb dX1_keep_171 rfl (lv_at hl 4 rfl) ?_
                refine va_iast hx hb hK hP hD hS 3 0 rfl rfl (v_in (by omega)) dX1_keep_172 (fun H locs hPn hDn hSn => ?_)
                clear hP hD hS
                have hP : va_P (dC, dI) vwCl [(oW, .inr (1, [.ref oC, .ref oK, .ref nw, .ref w1, .ref w2, .ref w3, .ref o7, .ref o8, .ref o9, .ref w4, .ref w5, .ref w6, .ref w7, .int x_46, .int tl, .int fsh, .int wi, .int ri, .int fm, .int lm])), (w4, .inl (cI, 200, .inl f_63)), (w5, .inl (cI, 200, .inl f_65)), (w6, .inl (cI, 200, .inl (upd ff_ (pl : Int32).toNatClampNeg sm))), (w7, .inl (cI, 200, .inl fg_))] H := hPn
                have hD : va_D A [(oW, .inr (1, [.ref oC, .ref oK, .ref nw, .ref w1, .ref w2, .ref w3, .ref o7, .ref o8, .ref o9, .ref w4, .ref w5, .ref w6, .ref w7, .int x_46, .int tl, .int fsh, .int wi, .int ri, .int fm, .int lm])), (w4, .inl (cI, 200, .inl f_63)), (w5, .inl (cI, 200, .inl f_65)), (w6, .inl (cI, 200, .inl (upd ff_ (pl : Int32).toNatClampNeg sm))), (w7, .inl (cI, 200, .inl fg_))] := hDn
                have hS := hSn
                clear hPn hDn hSn
                obtain ⟨f_66, ef_66⟩ : ∃ g : Nat → Int32, g = upd ff_ (pl : Int32).toNatClampNeg sm := ⟨_, rfl⟩
                rw [← ef_66] at hP hD
                refine lv_aload_n hx hb dX1_keep_173 rfl (lv_at hl 1 rfl) ?_
                refine va_get (D := (dC, dI)) (ci := 1) (v := .ref w7) (C := RX1) (T := TX1) (N := 20) hx hb hts in_X1 hown hK hP 0 rfl rfl 12 (by decide) (hts (.fieldLink RX1 39 "TextMender$Choices" "lengthOf" "[I") (List.mem_of_getElem? (i := 9) rfl)) (fun _ h9 => h9) rfl dX1_keep_174 ?_
                refine lv_iload hx hb dX1_keep_177 (lv_at hl 0 rfl) ?_
                refine lv_iload hx hb dX1_keep_179 (lv_at hl 5 rfl) ?_
                refine va_iast hx hb hK hP hD hS 4 0 rfl rfl (v_in (by omega)) dX1_keep_181 (fun H locs hPn hDn hSn => ?_)
                clear hP hD hS
                have hP : va_P (dC, dI) vwCl [(oW, .inr (1, [.ref oC, .ref oK, .ref nw, .ref w1, .ref w2, .ref w3, .ref o7, .ref o8, .ref o9, .ref w4, .ref w5, .ref w6, .ref w7, .int x_46, .int tl, .int fsh, .int wi, .int ri, .int fm, .int lm])), (w4, .inl (cI, 200, .inl f_63)), (w5, .inl (cI, 200, .inl f_65)), (w6, .inl (cI, 200, .inl f_66)), (w7, .inl (cI, 200, .inl (upd fg_ (pl : Int32).toNatClampNeg ls_)))] H := hPn
                have hD : va_D A [(oW, .inr (1, [.ref oC, .ref oK, .ref nw, .ref w1, .ref w2, .ref w3, .ref o7, .ref o8, .ref o9, .ref w4, .ref w5, .ref w6, .ref w7, .int x_46, .int tl, .int fsh, .int wi, .int ri, .int fm, .int lm])), (w4, .inl (cI, 200, .inl f_63)), (w5, .inl (cI, 200, .inl f_65)), (w6, .inl (cI, 200, .inl f_66)), (w7, .inl (cI, 200, .inl (upd fg_ (pl : Int32).toNatClampNeg ls_)))] := hDn
                have hS := hSn
                clear hPn hDn hSn
                obtain ⟨f_67, ef_67⟩ : ∃ g : Nat → Int32, g = upd fg_ (pl : Int32).toNatClampNeg ls_ := ⟨_, rfl⟩
                rw [← ef_67] at hP hD
                have hP9 := hP.sub (ws' := [(oW, .inr (1, [.ref oC, .ref oK, .ref nw, .ref w1, .ref w2, .ref w3, .ref o7, .ref o8, .ref o9, .ref w4, .ref w5, .ref w6, .ref w7, .int x_46, .int tl, .int fsh, .int wi, .int ri, .int fm, .int lm])), (w4, .inl (cI, 200, .inl f_63)), (w5, .inl (cI, 200, .inl f_65)), (w6, .inl (cI, 200, .inl f_66)), (w7, .inl (cI, 200, .inl f_67))]) [0, 1, 2, 3, 4] rfl
                have hD9 := hD.sub (ws' := [(oW, .inr (1, [.ref oC, .ref oK, .ref nw, .ref w1, .ref w2, .ref w3, .ref o7, .ref o8, .ref o9, .ref w4, .ref w5, .ref w6, .ref w7, .int x_46, .int tl, .int fsh, .int wi, .int ri, .int fm, .int lm])), (w4, .inl (cI, 200, .inl f_63)), (w5, .inl (cI, 200, .inl f_65)), (w6, .inl (cI, 200, .inl f_66)), (w7, .inl (cI, 200, .inl f_67))]) [0, 1, 2, 3, 4] (by decide +kernel) rfl
                rw [hQQ]
                exact W.vret hx hb hr (fun t ht hW => ⟨⟨(), rfl, trivial, ⟨x_46, f_63, f_65, f_66, f_67, by rw [ht]; exact hP9, hD9, by omega, by show (ke.toInt < 200 ∧ x_46.toInt = ke.toInt + 1) ∨ (ke.toInt = 200 ∧ x_46.toInt = 200); omega, kp_end hkp hsr (by omega) (by omega) (by have c8 := v_clamp (x := x_46) (by omega); omega) ef_63 ef_65 ef_66 ef_67 (by show _ = (if a.toInt = -1 then b.toInt else a.toInt); rw [if_neg (by omega)]) (by show _ = (if a.toInt = -1 then -1 else b.toInt); rw [if_neg (by omega)]) rfl rfl hbg (Or.inr ⟨x_59, x_60, by omega, ex_60, by show _ ≤ sm.toInt; omega⟩)⟩⟩, hS.F ht⟩) hS.2.2 dX1_keep_182
              · have tc_62 : a.toInt = (-1) := v_eq c_62
                refine lv_iload_n hx hb dX1_keep_142 rfl (lv_at hl 3 rfl) ?_
                refine lv_goto (tgt := 147) hx hb dX1_keep_143 (by decide) ?_
                refine va_iast hx hb hK hP hD hS 1 0 rfl rfl (v_in (by omega)) dX1_keep_147 (fun H locs hPn hDn hSn => ?_)
                clear hP hD hS
                have hP : va_P (dC, dI) vwCl [(oW, .inr (1, [.ref oC, .ref oK, .ref nw, .ref w1, .ref w2, .ref w3, .ref o7, .ref o8, .ref o9, .ref w4, .ref w5, .ref w6, .ref w7, .int x_46, .int tl, .int fsh, .int wi, .int ri, .int fm, .int lm])), (w4, .inl (cI, 200, .inl (upd fd_ (pl : Int32).toNatClampNeg b))), (w5, .inl (cI, 200, .inl fe_)), (w6, .inl (cI, 200, .inl ff_)), (w7, .inl (cI, 200, .inl fg_))] H := hPn
                have hD : va_D A [(oW, .inr (1, [.ref oC, .ref oK, .ref nw, .ref w1, .ref w2, .ref w3, .ref o7, .ref o8, .ref o9, .ref w4, .ref w5, .ref w6, .ref w7, .int x_46, .int tl, .int fsh, .int wi, .int ri, .int fm, .int lm])), (w4, .inl (cI, 200, .inl (upd fd_ (pl : Int32).toNatClampNeg b))), (w5, .inl (cI, 200, .inl fe_)), (w6, .inl (cI, 200, .inl ff_)), (w7, .inl (cI, 200, .inl fg_))] := hDn
                have hS := hSn
                clear hPn hDn hSn
                obtain ⟨f_68, ef_68⟩ : ∃ g : Nat → Int32, g = upd fd_ (pl : Int32).toNatClampNeg b := ⟨_, rfl⟩
                rw [← ef_68] at hP hD
                refine lv_aload_n hx hb dX1_keep_148 rfl (lv_at hl 1 rfl) ?_
                refine va_get (D := (dC, dI)) (ci := 1) (v := .ref w5) (C := RX1) (T := TX1) (N := 20) hx hb hts in_X1 hown hK hP 0 rfl rfl 10 (by decide) (hts (.fieldLink RX1 33 "TextMender$Choices" "secondByte" "[I") (List.mem_of_getElem? (i := 8) rfl)) (fun _ h9 => h9) rfl dX1_keep_149 ?_
                refine lv_iload hx hb dX1_keep_152 (lv_at hl 0 rfl) ?_
                refine lv_iload_n hx hb dX1_keep_154 rfl (lv_at hl 2 rfl) ?_
                refine lv_iconst (v := (-1)) hx hb dX1_keep_155 (by decide) ?_
                refine lv_icmp_ne (tgt := 163) hx hb dX1_keep_156 (by decide) (fun c_69 => by exfalso; have tc_69 : ¬ a.toInt = (-1) := v_ne c_69; omega) (fun c_69 => ?_)
                have tc_69 : a.toInt = (-1) := v_eq c_69
                refine lv_iconst (v := (-1)) hx hb dX1_keep_159 (by decide) ?_
                refine lv_goto (tgt := 164) hx hb dX1_keep_160 (by decide) ?_
                refine va_iast hx hb hK hP hD hS 2 0 rfl rfl (v_in (by omega)) dX1_keep_164 (fun H locs hPn hDn hSn => ?_)
                clear hP hD hS
                have hP : va_P (dC, dI) vwCl [(oW, .inr (1, [.ref oC, .ref oK, .ref nw, .ref w1, .ref w2, .ref w3, .ref o7, .ref o8, .ref o9, .ref w4, .ref w5, .ref w6, .ref w7, .int x_46, .int tl, .int fsh, .int wi, .int ri, .int fm, .int lm])), (w4, .inl (cI, 200, .inl f_68)), (w5, .inl (cI, 200, .inl (upd fe_ (pl : Int32).toNatClampNeg (-1)))), (w6, .inl (cI, 200, .inl ff_)), (w7, .inl (cI, 200, .inl fg_))] H := hPn
                have hD : va_D A [(oW, .inr (1, [.ref oC, .ref oK, .ref nw, .ref w1, .ref w2, .ref w3, .ref o7, .ref o8, .ref o9, .ref w4, .ref w5, .ref w6, .ref w7, .int x_46, .int tl, .int fsh, .int wi, .int ri, .int fm, .int lm])), (w4, .inl (cI, 200, .inl f_68)), (w5, .inl (cI, 200, .inl (upd fe_ (pl : Int32).toNatClampNeg (-1)))), (w6, .inl (cI, 200, .inl ff_)), (w7, .inl (cI, 200, .inl fg_))] := hDn
                have hS := hSn
                clear hPn hDn hSn
                obtain ⟨f_70, ef_70⟩ : ∃ g : Nat → Int32, g = upd fe_ (pl : Int32).toNatClampNeg (-1) := ⟨_, rfl⟩
                rw [← ef_70] at hP hD
                refine lv_aload_n hx hb dX1_keep_165 rfl (lv_at hl 1 rfl) ?_
                refine va_get (D := (dC, dI)) (ci := 1) (v := .ref w6) (C := RX1) (T := TX1) (N := 20) hx hb hts in_X1 hown hK hP 0 rfl rfl 11 (by decide) (hts (.fieldLink RX1 36 "TextMender$Choices" "costOf" "[I") (List.mem_of_getElem? (i := 2) rfl)) (fun _ h9 => h9) rfl dX1_keep_166 ?_
                refine lv_iload hx hb dX1_keep_169 (lv_at hl 0 rfl) ?_
                refine lv_iload_n hx hb dX1_keep_171 rfl (lv_at hl 4 rfl) ?_
                refine va_iast hx hb hK hP hD hS 3 0 rfl rfl (v_in (by omega)) dX1_keep_172 (fun H locs hPn hDn hSn => ?_)
                clear hP hD hS
                have hP : va_P (dC, dI) vwCl [(oW, .inr (1, [.ref oC, .ref oK, .ref nw, .ref w1, .ref w2, .ref w3, .ref o7, .ref o8, .ref o9, .ref w4, .ref w5, .ref w6, .ref w7, .int x_46, .int tl, .int fsh, .int wi, .int ri, .int fm, .int lm])), (w4, .inl (cI, 200, .inl f_68)), (w5, .inl (cI, 200, .inl f_70)), (w6, .inl (cI, 200, .inl (upd ff_ (pl : Int32).toNatClampNeg sm))), (w7, .inl (cI, 200, .inl fg_))] H := hPn
                have hD : va_D A [(oW, .inr (1, [.ref oC, .ref oK, .ref nw, .ref w1, .ref w2, .ref w3, .ref o7, .ref o8, .ref o9, .ref w4, .ref w5, .ref w6, .ref w7, .int x_46, .int tl, .int fsh, .int wi, .int ri, .int fm, .int lm])), (w4, .inl (cI, 200, .inl f_68)), (w5, .inl (cI, 200, .inl f_70)), (w6, .inl (cI, 200, .inl (upd ff_ (pl : Int32).toNatClampNeg sm))), (w7, .inl (cI, 200, .inl fg_))] := hDn
                have hS := hSn
                clear hPn hDn hSn
                obtain ⟨f_71, ef_71⟩ : ∃ g : Nat → Int32, g = upd ff_ (pl : Int32).toNatClampNeg sm := ⟨_, rfl⟩
                rw [← ef_71] at hP hD
                refine lv_aload_n hx hb dX1_keep_173 rfl (lv_at hl 1 rfl) ?_
                refine va_get (D := (dC, dI)) (ci := 1) (v := .ref w7) (C := RX1) (T := TX1) (N := 20) hx hb hts in_X1 hown hK hP 0 rfl rfl 12 (by decide) (hts (.fieldLink RX1 39 "TextMender$Choices" "lengthOf" "[I") (List.mem_of_getElem? (i := 9) rfl)) (fun _ h9 => h9) rfl dX1_keep_174 ?_
                refine lv_iload hx hb dX1_keep_177 (lv_at hl 0 rfl) ?_
                refine lv_iload hx hb dX1_keep_179 (lv_at hl 5 rfl) ?_
                refine va_iast hx hb hK hP hD hS 4 0 rfl rfl (v_in (by omega)) dX1_keep_181 (fun H locs hPn hDn hSn => ?_)
                clear hP hD hS
                have hP : va_P (dC, dI) vwCl [(oW, .inr (1, [.ref oC, .ref oK, .ref nw, .ref w1, .ref w2, .ref w3, .ref o7, .ref o8, .ref o9, .ref w4, .ref w5, .ref w6, .ref w7, .int x_46, .int tl, .int fsh, .int wi, .int ri, .int fm, .int lm])), (w4, .inl (cI, 200, .inl f_68)), (w5, .inl (cI, 200, .inl f_70)), (w6, .inl (cI, 200, .inl f_71)), (w7, .inl (cI, 200, .inl (upd fg_ (pl : Int32).toNatClampNeg ls_)))] H := hPn
                have hD : va_D A [(oW, .inr (1, [.ref oC, .ref oK, .ref nw, .ref w1, .ref w2, .ref w3, .ref o7, .ref o8, .ref o9, .ref w4, .ref w5, .ref w6, .ref w7, .int x_46, .int tl, .int fsh, .int wi, .int ri, .int fm, .int lm])), (w4, .inl (cI, 200, .inl f_68)), (w5, .inl (cI, 200, .inl f_70)), (w6, .inl (cI, 200, .inl f_71)), (w7, .inl (cI, 200, .inl (upd fg_ (pl : Int32).toNatClampNeg ls_)))] := hDn
                have hS := hSn
                clear hPn hDn hSn
                obtain ⟨f_72, ef_72⟩ : ∃ g : Nat → Int32, g = upd fg_ (pl : Int32).toNatClampNeg ls_ := ⟨_, rfl⟩
                rw [← ef_72] at hP hD
                have hP9 := hP.sub (ws' := [(oW, .inr (1, [.ref oC, .ref oK, .ref nw, .ref w1, .ref w2, .ref w3, .ref o7, .ref o8, .ref o9, .ref w4, .ref w5, .ref w6, .ref w7, .int x_46, .int tl, .int fsh, .int wi, .int ri, .int fm, .int lm])), (w4, .inl (cI, 200, .inl f_68)), (w5, .inl (cI, 200, .inl f_70)), (w6, .inl (cI, 200, .inl f_71)), (w7, .inl (cI, 200, .inl f_72))]) [0, 1, 2, 3, 4] rfl
                have hD9 := hD.sub (ws' := [(oW, .inr (1, [.ref oC, .ref oK, .ref nw, .ref w1, .ref w2, .ref w3, .ref o7, .ref o8, .ref o9, .ref w4, .ref w5, .ref w6, .ref w7, .int x_46, .int tl, .int fsh, .int wi, .int ri, .int fm, .int lm])), (w4, .inl (cI, 200, .inl f_68)), (w5, .inl (cI, 200, .inl f_70)), (w6, .inl (cI, 200, .inl f_71)), (w7, .inl (cI, 200, .inl f_72))]) [0, 1, 2, 3, 4] (by decide +kernel) rfl
                rw [hQQ]
                exact W.vret hx hb hr (fun t ht hW => ⟨⟨(), rfl, trivial, ⟨x_46, f_68, f_70, f_71, f_72, by rw [ht]; exact hP9, hD9, by omega, by show (ke.toInt < 200 ∧ x_46.toInt = ke.toInt + 1) ∨ (ke.toInt = 200 ∧ x_46.toInt = 200); omega, kp_end hkp hsr (by omega) (by omega) (by have c8 := v_clamp (x := x_46) (by omega); omega) ef_68 ef_70 ef_71 ef_72 (by show _ = (if a.toInt = -1 then b.toInt else a.toInt); rw [if_pos (by omega)]) (by show _ = (if a.toInt = -1 then -1 else b.toInt); rw [if_pos (by omega)]; rfl) rfl rfl hbg (Or.inr ⟨x_59, x_60, by omega, ex_60, by show _ ≤ sm.toInt; omega⟩)⟩⟩, hS.F ht⟩) hS.2.2 dX1_keep_182
            · have tc_61 : sm.toInt < x_60.toInt := v_nle c_61
              have rw61_0 := v_rng x_60
              refine lv_aload_n hx hb dX1_keep_61 rfl (lv_at hl 1 rfl) ?_
              refine va_get (D := (dC, dI)) (ci := 1) (v := .ref w4) (C := RX1) (T := TX1) (N := 20) hx hb hts in_X1 hown hK hP 0 rfl rfl 9 (by decide) (hts (.fieldLink RX1 30 "TextMender$Choices" "firstByte" "[I") (List.mem_of_getElem? (i := 7) rfl)) (fun _ h9 => h9) rfl dX1_keep_62 ?_
              refine lv_iload hx hb dX1_keep_65 (lv_at hl 0 rfl) ?_
              refine lv_aload_n hx hb dX1_keep_67 rfl (lv_at hl 1 rfl) ?_
              refine va_get (D := (dC, dI)) (ci := 1) (v := .ref w4) (C := RX1) (T := TX1) (N := 20) hx hb hts in_X1 hown hK hP 0 rfl rfl 9 (by decide) (hts (.fieldLink RX1 30 "TextMender$Choices" "firstByte" "[I") (List.mem_of_getElem? (i := 7) rfl)) (fun _ h9 => h9) rfl dX1_keep_68 ?_
              refine lv_iload hx hb dX1_keep_71 (lv_at hl 0 rfl) ?_
              refine lv_iconst (v := 1) hx hb dX1_keep_73 (by decide) ?_
              refine lv_isub hx hb dX1_keep_74 ?_
              refine lv_topi (fun x_73 ex_73 => ?_)
              have tx_73 : x_73.toInt = pl.toInt - 1 := v_sub ex_73 (by show -2147483648 ≤ pl.toInt - 1; omega) (by show pl.toInt - 1 < 2147483648; omega)
              refine va_iald hx hb hK hP 1 0 rfl rfl (v_in (by omega)) dX1_keep_75 ?_
              refine lv_topi (fun x_74 ex_74 => ?_)
              refine va_iast hx hb hK hP hD hS 1 0 rfl rfl (v_in (by omega)) dX1_keep_76 (fun H locs hPn hDn hSn => ?_)
              clear hP hD hS
              have hP : va_P (dC, dI) vwCl [(oW, .inr (1, [.ref oC, .ref oK, .ref nw, .ref w1, .ref w2, .ref w3, .ref o7, .ref o8, .ref o9, .ref w4, .ref w5, .ref w6, .ref w7, .int x_46, .int tl, .int fsh, .int wi, .int ri, .int fm, .int lm])), (w4, .inl (cI, 200, .inl (upd fd_ (pl : Int32).toNatClampNeg x_74))), (w5, .inl (cI, 200, .inl fe_)), (w6, .inl (cI, 200, .inl ff_)), (w7, .inl (cI, 200, .inl fg_))] H := hPn
              have hD : va_D A [(oW, .inr (1, [.ref oC, .ref oK, .ref nw, .ref w1, .ref w2, .ref w3, .ref o7, .ref o8, .ref o9, .ref w4, .ref w5, .ref w6, .ref w7, .int x_46, .int tl, .int fsh, .int wi, .int ri, .int fm, .int lm])), (w4, .inl (cI, 200, .inl (upd fd_ (pl : Int32).toNatClampNeg x_74))), (w5, .inl (cI, 200, .inl fe_)), (w6, .inl (cI, 200, .inl ff_)), (w7, .inl (cI, 200, .inl fg_))] := hDn
              have hS := hSn
              clear hPn hDn hSn
              obtain ⟨f_75, ef_75⟩ : ∃ g : Nat → Int32, g = upd fd_ (pl : Int32).toNatClampNeg x_74 := ⟨_, rfl⟩
              rw [← ef_75] at hP hD
              refine lv_aload_n hx hb dX1_keep_77 rfl (lv_at hl 1 rfl) ?_
              refine va_get (D := (dC, dI)) (ci := 1) (v := .ref w5) (C := RX1) (T := TX1) (N := 20) hx hb hts in_X1 hown hK hP 0 rfl rfl 10 (by decide) (hts (.fieldLink RX1 33 "TextMender$Choices" "secondByte" "[I") (List.mem_of_getElem? (i := 8) rfl)) (fun _ h9 => h9) rfl dX1_keep_78 ?_
              refine lv_iload hx hb dX1_keep_81 (lv_at hl 0 rfl) ?_
              refine lv_aload_n hx hb dX1_keep_83 rfl (lv_at hl 1 rfl) ?_
              refine va_get (D := (dC, dI)) (ci := 1) (v := .ref w5) (C := RX1) (T := TX1) (N := 20) hx hb hts in_X1 hown hK hP 0 rfl rfl 10 (by decide) (hts (.fieldLink RX1 33 "TextMender$Choices" "secondByte" "[I") (List.mem_of_getElem? (i := 8) rfl)) (fun _ h9 => h9) rfl dX1_keep_84 ?_
              refine lv_iload hx hb dX1_keep_87 (lv_at hl 0 rfl) ?_
              refine lv_iconst (v := 1) hx hb dX1_keep_89 (by decide) ?_
              refine lv_isub hx hb dX1_keep_90 ?_
              refine lv_topi (fun x_76 ex_76 => ?_)
              have tx_76 : x_76.toInt = pl.toInt - 1 := v_sub ex_76 (by show -2147483648 ≤ pl.toInt - 1; omega) (by show pl.toInt - 1 < 2147483648; omega)
              refine va_iald hx hb hK hP 2 0 rfl rfl (v_in (by omega)) dX1_keep_91 ?_
              refine lv_topi (fun x_77 ex_77 => ?_)
              refine va_iast hx hb hK hP hD hS 2 0 rfl rfl (v_in (by omega)) dX1_keep_92 (fun H locs hPn hDn hSn => ?_)
              clear hP hD hS
              have hP : va_P (dC, dI) vwCl [(oW, .inr (1, [.ref oC, .ref oK, .ref nw, .ref w1, .ref w2, .ref w3, .ref o7, .ref o8, .ref o9, .ref w4, .ref w5, .ref w6, .ref w7, .int x_46, .int tl, .int fsh, .int wi, .int ri, .int fm, .int lm])), (w4, .inl (cI, 200, .inl f_75)), (w5, .inl (cI, 200, .inl (upd fe_ (pl : Int32).toNatClampNeg x_77))), (w6, .inl (cI, 200, .inl ff_)), (w7, .inl (cI, 200, .inl fg_))] H := hPn
              have hD : va_D A [(oW, .inr (1, [.ref oC, .ref oK, .ref nw, .ref w1, .ref w2, .ref w3, .ref o7, .ref o8, .ref o9, .ref w4, .ref w5, .ref w6, .ref w7, .int x_46, .int tl, .int fsh, .int wi, .int ri, .int fm, .int lm])), (w4, .inl (cI, 200, .inl f_75)), (w5, .inl (cI, 200, .inl (upd fe_ (pl : Int32).toNatClampNeg x_77))), (w6, .inl (cI, 200, .inl ff_)), (w7, .inl (cI, 200, .inl fg_))] := hDn
              have hS := hSn
              clear hPn hDn hSn
              obtain ⟨f_78, ef_78⟩ : ∃ g : Nat → Int32, g = upd fe_ (pl : Int32).toNatClampNeg x_77 := ⟨_, rfl⟩
              rw [← ef_78] at hP hD
              refine lv_aload_n hx hb dX1_keep_93 rfl (lv_at hl 1 rfl) ?_
              refine va_get (D := (dC, dI)) (ci := 1) (v := .ref w6) (C := RX1) (T := TX1) (N := 20) hx hb hts in_X1 hown hK hP 0 rfl rfl 11 (by decide) (hts (.fieldLink RX1 36 "TextMender$Choices" "costOf" "[I") (List.mem_of_getElem? (i := 2) rfl)) (fun _ h9 => h9) rfl dX1_keep_94 ?_
              refine lv_iload hx hb dX1_keep_97 (lv_at hl 0 rfl) ?_
              refine lv_aload_n hx hb dX1_keep_99 rfl (lv_at hl 1 rfl) ?_
              refine va_get (D := (dC, dI)) (ci := 1) (v := .ref w6) (C := RX1) (T := TX1) (N := 20) hx hb hts in_X1 hown hK hP 0 rfl rfl 11 (by decide) (hts (.fieldLink RX1 36 "TextMender$Choices" "costOf" "[I") (List.mem_of_getElem? (i := 2) rfl)) (fun _ h9 => h9) rfl dX1_keep_100 ?_
              refine lv_iload hx hb dX1_keep_103 (lv_at hl 0 rfl) ?_
              refine lv_iconst (v := 1) hx hb dX1_keep_105 (by decide) ?_
              refine lv_isub hx hb dX1_keep_106 ?_
              refine lv_topi (fun x_79 ex_79 => ?_)
              have tx_79 : x_79.toInt = pl.toInt - 1 := v_sub ex_79 (by show -2147483648 ≤ pl.toInt - 1; omega) (by show pl.toInt - 1 < 2147483648; omega)
              refine va_iald hx hb hK hP 3 0 rfl rfl (v_in (by omega)) dX1_keep_107 ?_
              refine lv_topi (fun x_80 ex_80 => ?_)
              refine va_iast hx hb hK hP hD hS 3 0 rfl rfl (v_in (by omega)) dX1_keep_108 (fun H locs hPn hDn hSn => ?_)
              clear hP hD hS
              have hP : va_P (dC, dI) vwCl [(oW, .inr (1, [.ref oC, .ref oK, .ref nw, .ref w1, .ref w2, .ref w3, .ref o7, .ref o8, .ref o9, .ref w4, .ref w5, .ref w6, .ref w7, .int x_46, .int tl, .int fsh, .int wi, .int ri, .int fm, .int lm])), (w4, .inl (cI, 200, .inl f_75)), (w5, .inl (cI, 200, .inl f_78)), (w6, .inl (cI, 200, .inl (upd ff_ (pl : Int32).toNatClampNeg x_80))), (w7, .inl (cI, 200, .inl fg_))] H := hPn
              have hD : va_D A [(oW, .inr (1, [.ref oC, .ref oK, .ref nw, .ref w1, .ref w2, .ref w3, .ref o7, .ref o8, .ref o9, .ref w4, .ref w5, .ref w6, .ref w7, .int x_46, .int tl, .int fsh, .int wi, .int ri, .int fm, .int lm])), (w4, .inl (cI, 200, .inl f_75)), (w5, .inl (cI, 200, .inl f_78)), (w6, .inl (cI, 200, .inl (upd ff_ (pl : Int32).toNatClampNeg x_80))), (w7, .inl (cI, 200, .inl fg_))] := hDn
              have hS := hSn
              clear hPn hDn hSn
              obtain ⟨f_81, ef_81⟩ : ∃ g : Nat → Int32, g = upd ff_ (pl : Int32).toNatClampNeg x_80 := ⟨_, rfl⟩
              rw [← ef_81] at hP hD
              refine lv_aload_n hx hb dX1_keep_109 rfl (lv_at hl 1 rfl) ?_
              refine va_get (D := (dC, dI)) (ci := 1) (v := .ref w7) (C := RX1) (T := TX1) (N := 20) hx hb hts in_X1 hown hK hP 0 rfl rfl 12 (by decide) (hts (.fieldLink RX1 39 "TextMender$Choices" "lengthOf" "[I") (List.mem_of_getElem? (i := 9) rfl)) (fun _ h9 => h9) rfl dX1_keep_110 ?_
              refine lv_iload hx hb dX1_keep_113 (lv_at hl 0 rfl) ?_
              refine lv_aload_n hx hb dX1_keep_115 rfl (lv_at hl 1 rfl) ?_
              refine va_get (D := (dC, dI)) (ci := 1) (v := .ref w7) (C := RX1) (T := TX1) (N := 20) hx hb hts in_X1 hown hK hP 0 rfl rfl 12 (by decide) (hts (.fieldLink RX1 39 "TextMender$Choices" "lengthOf" "[I") (List.mem_of_getElem? (i := 9) rfl)) (fun _ h9 => h9) rfl dX1_keep_116 ?_
              refine lv_iload hx hb dX1_keep_119 (lv_at hl 0 rfl) ?_
              refine lv_iconst (v := 1) hx hb dX1_keep_121 (by decide) ?_
              refine lv_isub hx hb dX1_keep_122 ?_
              refine lv_topi (fun x_82 ex_82 => ?_)
              have tx_82 : x_82.toInt = pl.toInt - 1 := v_sub ex_82 (by show -2147483648 ≤ pl.toInt - 1; omega) (by show pl.toInt - 1 < 2147483648; omega)
              refine va_iald hx hb hK hP 4 0 rfl rfl (v_in (by omega)) dX1_keep_123 ?_
              refine lv_topi (fun x_83 ex_83 => ?_)
              refine va_iast hx hb hK hP hD hS 4 0 rfl rfl (v_in (by omega)) dX1_keep_124 (fun H locs hPn hDn hSn => ?_)
              clear hP hD hS
              have hP : va_P (dC, dI) vwCl [(oW, .inr (1, [.ref oC, .ref oK, .ref nw, .ref w1, .ref w2, .ref w3, .ref o7, .ref o8, .ref o9, .ref w4, .ref w5, .ref w6, .ref w7, .int x_46, .int tl, .int fsh, .int wi, .int ri, .int fm, .int lm])), (w4, .inl (cI, 200, .inl f_75)), (w5, .inl (cI, 200, .inl f_78)), (w6, .inl (cI, 200, .inl f_81)), (w7, .inl (cI, 200, .inl (upd fg_ (pl : Int32).toNatClampNeg x_83)))] H := hPn
              have hD : va_D A [(oW, .inr (1, [.ref oC, .ref oK, .ref nw, .ref w1, .ref w2, .ref w3, .ref o7, .ref o8, .ref o9, .ref w4, .ref w5, .ref w6, .ref w7, .int x_46, .int tl, .int fsh, .int wi, .int ri, .int fm, .int lm])), (w4, .inl (cI, 200, .inl f_75)), (w5, .inl (cI, 200, .inl f_78)), (w6, .inl (cI, 200, .inl f_81)), (w7, .inl (cI, 200, .inl (upd fg_ (pl : Int32).toNatClampNeg x_83)))] := hDn
              have hS := hSn
              clear hPn hDn hSn
              obtain ⟨f_84, ef_84⟩ : ∃ g : Nat → Int32, g = upd fg_ (pl : Int32).toNatClampNeg x_83 := ⟨_, rfl⟩
              rw [← ef_84] at hP hD
              obtain ⟨x_85, ex_85⟩ : ∃ y : Int32, y = pl + (-1) := ⟨_, rfl⟩
              have tx_85 : x_85.toInt = pl.toInt + (-1) := v_add ex_85 (by show -2147483648 ≤ pl.toInt + (-1); omega) (by show pl.toInt + (-1) < 2147483648; omega)
              refine lv_iinc (v := x_85) (lv' := [(5, .int x_85), (0, .ref oW), (1, .int a), (2, .int b), (3, .int sm), (4, .int ls_)]) hx hb dX1_keep_125 hl (k := 0) rfl (by rw [ex_85]; rfl) (by decide) rfl (fun ls hl => ?_)
              refine lv_goto (tgt := 43) hx hb dX1_keep_128 (by decide) ?_
              exact ih_43 x_85 f_75 f_78 f_81 f_84 _ _ _ (ms_lt hm_43 (by show ((x_85.toInt : Int)) < pl.toInt; omega) (by show (0 : Int) < pl.toInt; omega)) (by show 0 ≤ x_85.toInt ∧ x_85.toInt ≤ 199; omega) (by show x_85.toInt ≤ ke.toInt; omega) (KPL_s4 hkp (by omega) (a0 := x_73) (by omega) (a1 := x_76) (by omega) (a2 := x_79) (by omega) (a3 := x_82) (by omega) ex_74 ex_77 ex_80 ex_83 ef_75 ef_78 ef_81 ef_84 (by omega)) (kp_big hkp hbg (by omega) (by omega) ex_60 (by omega) (by omega)) hP hD hS (lv_sub hl [0, 1, 2, 3, 4, 5] rfl)
      exact LOOP_43 _ x_45 fW4 fW5 fW6 fW7 _ _ _ (ms_s _) (by show 0 ≤ x_45.toInt ∧ x_45.toInt ≤ 199; omega) (by show x_45.toInt ≤ ke.toInt; omega) (KPL_0 rfl) (kp_b0 (by omega) ex_43 (by omega)) hP hD hS (lv_sub hl [0, 1, 2, 3, 4, 5] rfl)
    · have tc_44 : x_43.toInt ≤ sm.toInt := v_nlt c_44
      have rw44_0 := v_rng sm
      have rw44_1 := v_rng x_43
      have hP9 := hP.sub (ws' := [(oW, .inr (1, [.ref oC, .ref oK, .ref nw, .ref w1, .ref w2, .ref w3, .ref o7, .ref o8, .ref o9, .ref w4, .ref w5, .ref w6, .ref w7, .int ke, .int tl, .int fsh, .int wi, .int ri, .int fm, .int lm])), (w4, .inl (cI, 200, .inl fW4)), (w5, .inl (cI, 200, .inl fW5)), (w6, .inl (cI, 200, .inl fW6)), (w7, .inl (cI, 200, .inl fW7))]) [0, 1, 2, 3, 4] rfl
      have hD9 := hD.sub (ws' := [(oW, .inr (1, [.ref oC, .ref oK, .ref nw, .ref w1, .ref w2, .ref w3, .ref o7, .ref o8, .ref o9, .ref w4, .ref w5, .ref w6, .ref w7, .int ke, .int tl, .int fsh, .int wi, .int ri, .int fm, .int lm])), (w4, .inl (cI, 200, .inl fW4)), (w5, .inl (cI, 200, .inl fW5)), (w6, .inl (cI, 200, .inl fW6)), (w7, .inl (cI, 200, .inl fW7))]) [0, 1, 2, 3, 4] (by decide +kernel) rfl
      rw [hQQ]
      exact W.vret hx hb hr (fun t ht hW => ⟨⟨(), rfl, trivial, ⟨ke, fW4, fW5, fW6, fW7, by rw [ht]; exact hP9, hD9, g_ke, by show (ke.toInt < 200 ∧ ke.toInt = ke.toInt + 1) ∨ (ke.toInt = 200 ∧ ke.toInt = 200); omega, kp_id (kp_full (by rw [show (200 : Nat) = ke.toNatClampNeg from (by omega)]; exact hsr) ex_43 (by show _ ≤ sm.toInt; omega)) (by omega)⟩⟩, hS.F ht⟩) hS.2.2 dX1_keep_22

end

/-! 5i.a.rows -/
section
theorem dX1_tryWhole_0 : decode cX1_tryWhole 0 = .ok (.aload_n 0, 1) := by decide +kernel
theorem dX1_tryWhole_1 : decode cX1_tryWhole 1 = .ok (.getfield 62, 3) := by decide +kernel
theorem dX1_tryWhole_4 : decode cX1_tryWhole 4 = .ok (.aload_n 0, 1) := by decide +kernel
theorem dX1_tryWhole_5 : decode cX1_tryWhole 5 = .ok (.getfield 59, 3) := by decide +kernel
set_option maxRecDepth 20000 in
theorem ggX1_tryWhole_X8_takeAll : GoodIn wsX1_tryWhole wsX8_takeAll := goodIn_r _ [14, 15, 16, 17, 18, 152, 153, 154, 155, 156, 157] rfl (by decide +kernel)
set_option maxRecDepth 20000 in
theorem gX1_tryWhole_X8_takeAll : GoodIn wsX1_tryWhole (wsV RX1 120 RX8 yX8_takeAll wsX8_takeAll) := goodIn_app (goodIn_r _ [10, 11, 12, 13] rfl (by decide +kernel)) ggX1_tryWhole_X8_takeAll
theorem dX1_tryWhole_8 : decode cX1_tryWhole 8 = .ok (.invokevirtual 120, 3) := by decide +kernel
theorem dX1_tryWhole_11 : decode cX1_tryWhole 11 = .ok (.iconst 0, 1) := by decide +kernel
theorem dX1_tryWhole_12 : decode cX1_tryWhole 12 = .ok (.istore_n 3, 1) := by decide +kernel
theorem dX1_tryWhole_13 : decode cX1_tryWhole 13 = .ok (.iload_n 3, 1) := by decide +kernel
theorem dX1_tryWhole_14 : decode cX1_tryWhole 14 = .ok (.sipush 800, 3) := by decide +kernel
theorem dX1_tryWhole_17 : decode cX1_tryWhole 17 = .ok (.if_icmp .ge 49, 3) := by decide +kernel
theorem dX1_tryWhole_66 : decode cX1_tryWhole 66 = .ok (.aload_n 0, 1) := by decide +kernel
theorem dX1_tryWhole_67 : decode cX1_tryWhole 67 = .ok (.getfield 62, 3) := by decide +kernel
set_option maxRecDepth 20000 in
theorem ggX1_tryWhole_X8_reached : GoodIn wsX1_tryWhole wsX8_reached := goodIn_r _ [22, 15, 152, 153, 154, 155, 156, 157] rfl (by decide +kernel)
set_option maxRecDepth 20000 in
theorem gX1_tryWhole_X8_reached : GoodIn wsX1_tryWhole (wsV RX1 162 RX8 yX8_reached wsX8_reached) := goodIn_app (goodIn_r _ [19, 20, 21, 13] rfl (by decide +kernel)) ggX1_tryWhole_X8_reached
theorem dX1_tryWhole_70 : decode cX1_tryWhole 70 = .ok (.invokevirtual 162, 3) := by decide +kernel
theorem dX1_tryWhole_73 : decode cX1_tryWhole 73 = .ok (.istore_n 3, 1) := by decide +kernel
theorem dX1_tryWhole_74 : decode cX1_tryWhole 74 = .ok (.iload_n 3, 1) := by decide +kernel
theorem dX1_tryWhole_75 : decode cX1_tryWhole 75 = .ok (.aload_n 0, 1) := by decide +kernel
theorem dX1_tryWhole_76 : decode cX1_tryWhole 76 = .ok (.getfield 85, 3) := by decide +kernel
theorem dX1_tryWhole_79 : decode cX1_tryWhole 79 = .ok (.if_icmp .le 20, 3) := by decide +kernel
theorem dX1_tryWhole_82 : decode cX1_tryWhole 82 = .ok (.iload_n 3, 1) := by decide +kernel
theorem dX1_tryWhole_83 : decode cX1_tryWhole 83 = .ok (.sipush 800, 3) := by decide +kernel
theorem dX1_tryWhole_86 : decode cX1_tryWhole 86 = .ok (.if_icmp .gt 13, 3) := by decide +kernel
theorem dX1_tryWhole_89 : decode cX1_tryWhole 89 = .ok (.aload_n 0, 1) := by decide +kernel
theorem dX1_tryWhole_90 : decode cX1_tryWhole 90 = .ok (.getfield 27, 3) := by decide +kernel
theorem dX1_tryWhole_93 : decode cX1_tryWhole 93 = .ok (.iload_n 3, 1) := by decide +kernel
theorem dX1_tryWhole_94 : decode cX1_tryWhole 94 = .ok (.iaload, 1) := by decide +kernel
theorem dX1_tryWhole_95 : decode cX1_tryWhole 95 = .ok (.iconst (-1), 1) := by decide +kernel
theorem dX1_tryWhole_96 : decode cX1_tryWhole 96 = .ok (.if_icmp .ne 4, 3) := by decide +kernel
theorem dX1_tryWhole_100 : decode cX1_tryWhole 100 = .ok (.aload_n 0, 1) := by decide +kernel
theorem dX1_tryWhole_101 : decode cX1_tryWhole 101 = .ok (.getfield 62, 3) := by decide +kernel
set_option maxRecDepth 20000 in
theorem ggX1_tryWhole_X8_letters : GoodIn wsX1_tryWhole wsX8_letters := goodIn_r _ [114, 18, 152, 153, 154, 155, 156, 157] rfl (by decide +kernel)
set_option maxRecDepth 20000 in
theorem gX1_tryWhole_X8_letters : GoodIn wsX1_tryWhole (wsV RX1 169 RX8 yX8_letters wsX8_letters) := goodIn_app (goodIn_r _ [111, 112, 113, 13] rfl (by decide +kernel)) ggX1_tryWhole_X8_letters
theorem dX1_tryWhole_104 : decode cX1_tryWhole 104 = .ok (.invokevirtual 169, 3) := by decide +kernel
theorem dX1_tryWhole_107 : decode cX1_tryWhole 107 = .ok (.aload_n 0, 1) := by decide +kernel
theorem dX1_tryWhole_108 : decode cX1_tryWhole 108 = .ok (.getfield 27, 3) := by decide +kernel
theorem dX1_tryWhole_111 : decode cX1_tryWhole 111 = .ok (.iload_n 3, 1) := by decide +kernel
theorem dX1_tryWhole_112 : decode cX1_tryWhole 112 = .ok (.iaload, 1) := by decide +kernel
theorem dX1_tryWhole_113 : decode cX1_tryWhole 113 = .ok (.iadd, 1) := by decide +kernel
theorem dX1_tryWhole_114 : decode cX1_tryWhole 114 = .ok (.istore 4, 2) := by decide +kernel
theorem dX1_tryWhole_116 : decode cX1_tryWhole 116 = .ok (.iload 4, 2) := by decide +kernel
theorem dX1_tryWhole_118 : decode cX1_tryWhole 118 = .ok (.sipush 300, 3) := by decide +kernel
theorem dX1_tryWhole_121 : decode cX1_tryWhole 121 = .ok (.if_icmp .gt 41, 3) := by decide +kernel
theorem dX1_tryWhole_162 : decode cX1_tryWhole 162 = .ok (.return_, 1) := by decide +kernel
theorem dX1_tryWhole_124 : decode cX1_tryWhole 124 = .ok (.aload_n 0, 1) := by decide +kernel
theorem dX1_tryWhole_125 : decode cX1_tryWhole 125 = .ok (.dup, 1) := by decide +kernel
theorem dX1_tryWhole_126 : decode cX1_tryWhole 126 = .ok (.getfield 69, 3) := by decide +kernel
theorem dX1_tryWhole_129 : decode cX1_tryWhole 129 = .ok (.iconst 1, 1) := by decide +kernel
theorem dX1_tryWhole_130 : decode cX1_tryWhole 130 = .ok (.iadd, 1) := by decide +kernel
theorem dX1_tryWhole_131 : decode cX1_tryWhole 131 = .ok (.putfield 69, 3) := by decide +kernel
theorem dX1_tryWhole_134 : decode cX1_tryWhole 134 = .ok (.aload_n 0, 1) := by decide +kernel
theorem dX1_tryWhole_135 : decode cX1_tryWhole 135 = .ok (.iload_n 1, 1) := by decide +kernel
theorem dX1_tryWhole_136 : decode cX1_tryWhole 136 = .ok (.iload_n 2, 1) := by decide +kernel
theorem dX1_tryWhole_137 : decode cX1_tryWhole 137 = .ok (.aload_n 0, 1) := by decide +kernel
theorem dX1_tryWhole_138 : decode cX1_tryWhole 138 = .ok (.getfield 62, 3) := by decide +kernel
theorem dX1_tryWhole_141 : decode cX1_tryWhole 141 = .ok (.aload_n 0, 1) := by decide +kernel
theorem dX1_tryWhole_142 : decode cX1_tryWhole 142 = .ok (.getfield 20, 3) := by decide +kernel
theorem dX1_tryWhole_145 : decode cX1_tryWhole 145 = .ok (.iload_n 3, 1) := by decide +kernel
theorem dX1_tryWhole_146 : decode cX1_tryWhole 146 = .ok (.iaload, 1) := by decide +kernel
set_option maxRecDepth 20000 in
theorem ggX1_tryWhole_X8_sumWith : GoodIn wsX1_tryWhole wsX8_sumWith := goodIn_r _ [118, 17, 34, 16, 86, 87, 88, 89, 90, 91, 92, 93, 94, 95, 96, 97, 98, 99, 100, 101, 102, 103, 104, 105, 106, 107, 152, 153, 154, 155, 156, 157, 166, 167, 168] rfl (by decide +kernel)
set_option maxRecDepth 20000 in
theorem gX1_tryWhole_X8_sumWith : GoodIn wsX1_tryWhole (wsV RX1 172 RX8 yX8_sumWith wsX8_sumWith) := goodIn_app (goodIn_r _ [115, 116, 117, 13] rfl (by decide +kernel)) ggX1_tryWhole_X8_sumWith
theorem dX1_tryWhole_147 : decode cX1_tryWhole 147 = .ok (.invokevirtual 172, 3) := by decide +kernel
theorem dX1_tryWhole_150 : decode cX1_tryWhole 150 = .ok (.aload_n 0, 1) := by decide +kernel
theorem dX1_tryWhole_151 : decode cX1_tryWhole 151 = .ok (.getfield 24, 3) := by decide +kernel
theorem dX1_tryWhole_154 : decode cX1_tryWhole 154 = .ok (.iload_n 3, 1) := by decide +kernel
theorem dX1_tryWhole_155 : decode cX1_tryWhole 155 = .ok (.iaload, 1) := by decide +kernel
theorem dX1_tryWhole_156 : decode cX1_tryWhole 156 = .ok (.iadd, 1) := by decide +kernel
theorem dX1_tryWhole_157 : decode cX1_tryWhole 157 = .ok (.iload 4, 2) := by decide +kernel
set_option maxRecDepth 20000 in
theorem ggX1_tryWhole_X1_keep : GoodIn wsX1_tryWhole wsX1_keep := goodIn_r _ [123, 124, 125, 126, 127, 37, 128, 129, 130, 131, 132, 133, 134, 135, 136, 137, 138, 139, 140, 141, 142, 143, 144, 145, 146, 147, 148, 149, 150, 151] rfl (by decide +kernel)
set_option maxRecDepth 20000 in
theorem gX1_tryWhole_X1_keep : GoodIn wsX1_tryWhole (wsV RX1 175 RX1 yX1_keep wsX1_keep) := goodIn_app (goodIn_r _ [119, 120, 121, 122] rfl (by decide +kernel)) ggX1_tryWhole_X1_keep
theorem dX1_tryWhole_159 : decode cX1_tryWhole 159 = .ok (.invokevirtual 175, 3) := by decide +kernel
theorem dX1_tryWhole_99 : decode cX1_tryWhole 99 = .ok (.return_, 1) := by decide +kernel
theorem dX1_tryWhole_20 : decode cX1_tryWhole 20 = .ok (.aload_n 0, 1) := by decide +kernel
theorem dX1_tryWhole_21 : decode cX1_tryWhole 21 = .ok (.getfield 62, 3) := by decide +kernel
theorem dX1_tryWhole_24 : decode cX1_tryWhole 24 = .ok (.invokevirtual 162, 3) := by decide +kernel
theorem dX1_tryWhole_27 : decode cX1_tryWhole 27 = .ok (.aload_n 0, 1) := by decide +kernel
theorem dX1_tryWhole_28 : decode cX1_tryWhole 28 = .ok (.getfield 85, 3) := by decide +kernel
theorem dX1_tryWhole_31 : decode cX1_tryWhole 31 = .ok (.if_icmp .gt 35, 3) := by decide +kernel
theorem dX1_tryWhole_34 : decode cX1_tryWhole 34 = .ok (.aload_n 0, 1) := by decide +kernel
theorem dX1_tryWhole_35 : decode cX1_tryWhole 35 = .ok (.getfield 62, 3) := by decide +kernel
theorem dX1_tryWhole_38 : decode cX1_tryWhole 38 = .ok (.aload_n 0, 1) := by decide +kernel
theorem dX1_tryWhole_39 : decode cX1_tryWhole 39 = .ok (.getfield 76, 3) := by decide +kernel
theorem dX1_tryWhole_42 : decode cX1_tryWhole 42 = .ok (.aload_n 0, 1) := by decide +kernel
theorem dX1_tryWhole_43 : decode cX1_tryWhole 43 = .ok (.getfield 16, 3) := by decide +kernel
theorem dX1_tryWhole_46 : decode cX1_tryWhole 46 = .ok (.aload_n 0, 1) := by decide +kernel
theorem dX1_tryWhole_47 : decode cX1_tryWhole 47 = .ok (.getfield 16, 3) := by decide +kernel
set_option maxRecDepth 20000 in
theorem ggX1_tryWhole_X5_length : GoodIn wsX1_tryWhole wsX5_length := goodIn_r _ [27, 28, 158, 159] rfl (by decide +kernel)
set_option maxRecDepth 20000 in
theorem gX1_tryWhole_X5_length : GoodIn wsX1_tryWhole (wsV RX1 91 RX5 yX5_length wsX5_length) := goodIn_app (goodIn_r _ [23, 24, 25, 26] rfl (by decide +kernel)) ggX1_tryWhole_X5_length
theorem dX1_tryWhole_50 : decode cX1_tryWhole 50 = .ok (.invokevirtual 91, 3) := by decide +kernel
set_option maxRecDepth 20000 in
theorem ggX1_tryWhole_X8_step : GoodIn wsX1_tryWhole wsX8_step := goodIn_r _ [32, 33, 15, 17, 34, 16, 18, 35, 36, 37, 38, 39, 40, 41, 42, 43, 44, 45, 46, 26, 47, 28, 48, 49, 50, 51, 52, 53, 54, 55, 56, 57, 58, 59, 60, 61, 62, 63, 64, 65, 66, 67, 68, 69, 70, 71, 72, 73, 74, 75, 76, 77, 78, 79, 80, 81, 82, 83, 84, 85, 86, 87, 88, 89, 90, 91, 92, 93, 94, 95, 96, 97, 98, 99, 100, 101, 102, 103, 104, 105, 106, 107, 108, 109, 110, 152, 153, 154, 155, 156, 157, 158, 159, 160, 161, 162, 163, 164, 165, 166, 167, 168] rfl (by decide +kernel)
set_option maxRecDepth 20000 in
theorem gX1_tryWhole_X8_step : GoodIn wsX1_tryWhole (wsV RX1 165 RX8 yX8_step wsX8_step) := goodIn_app (goodIn_r _ [29, 30, 31, 13] rfl (by decide +kernel)) ggX1_tryWhole_X8_step
theorem dX1_tryWhole_53 : decode cX1_tryWhole 53 = .ok (.invokevirtual 165, 3) := by decide +kernel
theorem dX1_tryWhole_56 : decode cX1_tryWhole 56 = .ok (.ifCond .ne 4, 3) := by decide +kernel
theorem dX1_tryWhole_60 : decode cX1_tryWhole 60 = .ok (.iinc 3 1, 3) := by decide +kernel
theorem dX1_tryWhole_63 : decode cX1_tryWhole 63 = .ok (.goto (-50), 3) := by decide +kernel
theorem dX1_tryWhole_59 : decode cX1_tryWhole 59 = .ok (.return_, 1) := by decide +kernel

end
