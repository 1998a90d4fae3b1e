set_option maxHeartbeats 40000000 in
set_option maxRecDepth 100000 in
theorem f_X8_step (l : Launch) (dC : Nat → ClassId) (dI : Nat → Nat → Nat) (cI cS : ClassId) (sz : Nat) (oE : Nat) (nu : Nat) (oC : Nat) (oK : Nat) (o4 : Nat) (o5 : Nat) (a41 : Nat) (a42 : Nat) (a43 : Nat) (a51 : Nat) (a52 : Nat) (a53 : Nat) (k1 : Nat) (k2 : Nat) (au : Nat) (cap : Nat) (reE : Int32) (laE : Int32) (suE : Int32) (leE : Int32) (l4 : Int32) (f41 : Nat → Int32) (l5 : Int32) (f51 : Nat → Int32) (lK : Int32) (fK1 : Nat → Int32) (fK2 : Nat → Int32) (lu : Int32) (fu : Nat → Int32) (cd : Int32) (en : Int32) (g_laE : 0 ≤ laE.toInt ∧ laE.toInt ≤ 65535) (g_lK : 0 ≤ lK.toInt ∧ lK.toInt ≤ 300) (g_lu : 0 ≤ lu.toInt ∧ lu.toInt ≤ (cap : Int)) (hcap : cap ≤ 2400) (hen : en.toInt ≤ lu.toInt) (hby : prg en.toInt 0 255 fu) (hL4 : prg 256 (-1) 65535 f41) (hL5 : prg 256 (-1) 65535 f51) (hT : HT 1024 1023 hsK fK1 fK2) (ho : (occ fK2 1024 : Int) ≤ lK.toInt) (hV : prg 1024 (-1) 200 fK2) (hn8E : 0 ≤ suE.toInt ∧ suE.toInt ≤ 200 * leE.toInt ∧ 0 ≤ leE.toInt ∧ leE.toInt ≤ reE.toInt ∧ reE.toInt ≤ en.toInt) : Met l yX8_step wsX8_step ({ frames := 3, cells := 0, slots := 0, locals := 74 } : Room) (va_Pc [.ref oE, .int cd, .ref nu, .int en] (fun U => U.heap.size = sz ∧ va_P (dC, dI) vwCl [(oE, .inr (8, [.ref oC, .ref oK, .int reE, .int laE, .int suE, .int leE])), (oC, .inr (2, [.ref o4, .ref o5])), (o4, .inr (10, [.ref a41, .ref a42, .ref a43, .int l4])), (a41, .inl (cI, 256, .inl f41)), (o5, .inr (10, [.ref a51, .ref a52, .ref a53, .int l5])), (a51, .inl (cI, 256, .inl f51)), (oK, .inr (3, [.ref k1, .ref k2, .int lK])), (k1, .inl (cI, 1024, .inl fK1)), (k2, .inl (cI, 1024, .inl fK2)), (nu, .inr (5, [.ref au, .int lu])), (au, .inl (cI, cap, .inl fu))] U.heap ∧ va_K (dC, dI) vwCl [(cI, .int), (cS, .short)] U ∧ va_D (fun _ => True) [(oE, .inr (8, [.ref oC, .ref oK, .int reE, .int laE, .int suE, .int leE])), (oC, .inr (2, [.ref o4, .ref o5])), (o4, .inr (10, [.ref a41, .ref a42, .ref a43, .int l4])), (a41, .inl (cI, 256, .inl f41)), (o5, .inr (10, [.ref a51, .ref a52, .ref a53, .int l5])), (a51, .inl (cI, 256, .inl f51)), (oK, .inr (3, [.ref k1, .ref k2, .int lK])), (k1, .inl (cI, 1024, .inl fK1)), (k2, .inl (cI, 1024, .inl fK2)), (nu, .inr (5, [.ref au, .int lu])), (au, .inl (cI, cap, .inl fu))] ∧ va_Nw (.methodLinkNest RX2 52 yX11_isLetter "TextMender") U)) (va_Qi (fun (r : Int32) (u : Int32) => r = u) (fun (r : Int32) t => ∃ (reE' : Int32) (laE' : Int32) (suE' : Int32) (leE' : Int32), va_P (dC, dI) vwCl [(oE, .inr (8, [.ref oC, .ref oK, .int reE', .int laE', .int suE', .int leE'])), (oC, .inr (2, [.ref o4, .ref o5])), (o4, .inr (10, [.ref a41, .ref a42, .ref a43, .int l4])), (a41, .inl (cI, 256, .inl f41)), (o5, .inr (10, [.ref a51, .ref a52, .ref a53, .int l5])), (a51, .inl (cI, 256, .inl f51)), (oK, .inr (3, [.ref k1, .ref k2, .int lK])), (k1, .inl (cI, 1024, .inl fK1)), (k2, .inl (cI, 1024, .inl fK2)), (nu, .inr (5, [.ref au, .int lu])), (au, .inl (cI, cap, .inl fu))] t.heap ∧ va_D (va_A [(oE, .inr (8, [.ref oC, .ref oK, .int reE, .int laE, .int suE, .int leE])), (oC, .inr (2, [.ref o4, .ref o5])), (o4, .inr (10, [.ref a41, .ref a42, .ref a43, .int l4])), (a41, .inl (cI, 256, .inl f41)), (o5, .inr (10, [.ref a51, .ref a52, .ref a53, .int l5])), (a51, .inl (cI, 256, .inl f51)), (oK, .inr (3, [.ref k1, .ref k2, .int lK])), (k1, .inl (cI, 1024, .inl fK1)), (k2, .inl (cI, 1024, .inl fK2)), (nu, .inr (5, [.ref au, .int lu])), (au, .inl (cI, cap, .inl fu))] sz) [(oE, .inr (8, [.ref oC, .ref oK, .int reE', .int laE', .int suE', .int leE'])), (oC, .inr (2, [.ref o4, .ref o5])), (o4, .inr (10, [.ref a41, .ref a42, .ref a43, .int l4])), (a41, .inl (cI, 256, .inl f41)), (o5, .inr (10, [.ref a51, .ref a52, .ref a53, .int l5])), (a51, .inl (cI, 256, .inl f51)), (oK, .inr (3, [.ref k1, .ref k2, .int lK])), (k1, .inl (cI, 1024, .inl fK1)), (k2, .inl (cI, 1024, .inl fK2)), (nu, .inr (5, [.ref au, .int lu])), (au, .inl (cI, cap, .inl fu))] ∧ (0 ≤ laE'.toInt ∧ laE'.toInt ≤ 65535) ∧ (0 ≤ r.toInt ∧ r.toInt ≤ 1) ∧ (0 ≤ suE'.toInt ∧ suE'.toInt ≤ 200 * leE'.toInt ∧ 0 ≤ leE'.toInt ∧ leE'.toInt ≤ reE'.toInt ∧ reE'.toInt ≤ en.toInt) ∧ (F_s8 r reE reE' laE laE' suE suE' leE leE' (tcC fK1 fK2) (dl cd f41 f51 fu en.toInt) (dx cd f41 f51 fu en.toInt))) (va_A [(oE, .inr (8, [.ref oC, .ref oK, .int reE, .int laE, .int suE, .int leE])), (oC, .inr (2, [.ref o4, .ref o5])), (o4, .inr (10, [.ref a41, .ref a42, .ref a43, .int l4])), (a41, .inl (cI, 256, .inl f41)), (o5, .inr (10, [.ref a51, .ref a52, .ref a53, .int l5])), (a51, .inl (cI, 256, .inl f51)), (oK, .inr (3, [.ref k1, .ref k2, .int lK])), (k1, .inl (cI, 1024, .inl fK1)), (k2, .inl (cI, 1024, .inl fK2)), (nu, .inr (5, [.ref au, .int lu])), (au, .inl (cI, cap, .inl fu))] sz)) 0 0 (va_A [(oE, .inr (8, [.ref oC, .ref oK, .int reE, .int laE, .int suE, .int leE])), (oC, .inr (2, [.ref o4, .ref o5])), (o4, .inr (10, [.ref a41, .ref a42, .ref a43, .int l4])), (a41, .inl (cI, 256, .inl f41)), (o5, .inr (10, [.ref a51, .ref a52, .ref a53, .int l5])), (a51, .inl (cI, 256, .inl f51)), (oK, .inr (3, [.ref k1, .ref k2, .int lK])), (k1, .inl (cI, 1024, .inl fK1)), (k2, .inl (cI, 1024, .inl fK2)), (nu, .inr (5, [.ref au, .int lu])), (au, .inl (cI, cap, .inl fu))] sz) := by
  refine Met.ofW (cc := cX8_step) (maxL := 6) (ret := (some .boolean)) (by decide) rfl ?_
  intro p e s m args below meth c s₁ B hml hv
  obtain ⟨rfl, hsz, hP, hK, hD0, hN52⟩ := hv
  have hx := B.exec
  have hb := B.bytes
  have hr := B.returns
  have hts := atoms_spec (ws := wsX8_step) B.pre
  have hown : s.vm.findClass RX8 = some m.cls := findClass_of_methodNamed B.named
  have hlocks := B.notSynchronized
  have in_X8 : ∀ w ∈ wsX80, w ∈ wsX8_step := fun _ h => List.mem_cons_of_mem _ (List.mem_append_left _ (List.mem_append_left _ (List.mem_append_left _ (List.mem_append_left _ (List.mem_append_right _ (h))))))
  subst hsz
  have hD := hD0.self (sz := s.heap.size)
  generalize hAe : va_A [(oE, .inr (8, [.ref oC, .ref oK, .int reE, .int laE, .int suE, .int leE])), (oC, .inr (2, [.ref o4, .ref o5])), (o4, .inr (10, [.ref a41, .ref a42, .ref a43, .int l4])), (a41, .inl (cI, 256, .inl f41)), (o5, .inr (10, [.ref a51, .ref a52, .ref a53, .int l5])), (a51, .inl (cI, 256, .inl f51)), (oK, .inr (3, [.ref k1, .ref k2, .int lK])), (k1, .inl (cI, 1024, .inl fK1)), (k2, .inl (cI, 1024, .inl fK2)), (nu, .inr (5, [.ref au, .int lu])), (au, .inl (cI, cap, .inl fu))] s.heap.size = A at hD ⊢
  have hA : ∀ q : Nat, s.heap.size ≤ q → A q := fun q h => by rw [← hAe]; exact Or.inr h
  have hS : va_S A s.heap s.heap [] := va_S.rf
  have hP : va_P (dC, dI) vwCl [(oE, .inr (8, [.ref oC, .ref oK, .int reE, .int laE, .int suE, .int leE])), (oC, .inr (2, [.ref o4, .ref o5])), (o4, .inr (10, [.ref a41, .ref a42, .ref a43, .int l4])), (a41, .inl (cI, 256, .inl f41)), (o5, .inr (10, [.ref a51, .ref a52, .ref a53, .int l5])), (a51, .inl (cI, 256, .inl f51)), (oK, .inr (3, [.ref k1, .ref k2, .int lK])), (k1, .inl (cI, 1024, .inl fK1)), (k2, .inl (cI, 1024, .inl fK2)), (nu, .inr (5, [.ref au, .int lu])), (au, .inl (cI, cap, .inl fu))] s.heap := hP
  have hl := lv_entry ([.ref oE, .int cd, .ref nu, .int en]) (n := 6) (Nat.le_of_ble_eq_true rfl)
  rw [lg_entry_eq]
  generalize (lg_sl ([.ref oE, .int cd, .ref nu, .int en]) ++ List.replicate (6 - (lg_sl ([.ref oE, .int cd, .ref nu, .int en])).length) Slot.unset).toArray = ls at hl ⊢
  have hl : lv_has ls 6 [(0, .ref oE), (1, .int cd), (2, .ref nu), (3, .int en)] := hl
  obtain ⟨QQ, hQQ⟩ : ∃ QQ : Array Value → State → Outcome → State → Prop, QQ = va_Qi (fun (r : Int32) (u : Int32) => r = u) (fun (r : Int32) t => ∃ (reE' : Int32) (laE' : Int32) (suE' : Int32) (leE' : Int32), va_P (dC, dI) vwCl [(oE, .inr (8, [.ref oC, .ref oK, .int reE', .int laE', .int suE', .int leE'])), (oC, .inr (2, [.ref o4, .ref o5])), (o4, .inr (10, [.ref a41, .ref a42, .ref a43, .int l4])), (a41, .inl (cI, 256, .inl f41)), (o5, .inr (10, [.ref a51, .ref a52, .ref a53, .int l5])), (a51, .inl (cI, 256, .inl f51)), (oK, .inr (3, [.ref k1, .ref k2, .int lK])), (k1, .inl (cI, 1024, .inl fK1)), (k2, .inl (cI, 1024, .inl fK2)), (nu, .inr (5, [.ref au, .int lu])), (au, .inl (cI, cap, .inl fu))] t.heap ∧ va_D A [(oE, .inr (8, [.ref oC, .ref oK, .int reE', .int laE', .int suE', .int leE'])), (oC, .inr (2, [.ref o4, .ref o5])), (o4, .inr (10, [.ref a41, .ref a42, .ref a43, .int l4])), (a41, .inl (cI, 256, .inl f41)), (o5, .inr (10, [.ref a51, .ref a52, .ref a53, .int l5])), (a51, .inl (cI, 256, .inl f51)), (oK, .inr (3, [.ref k1, .ref k2, .int lK])), (k1, .inl (cI, 1024, .inl fK1)), (k2, .inl (cI, 1024, .inl fK2)), (nu, .inr (5, [.ref au, .int lu])), (au, .inl (cI, cap, .inl fu))] ∧ (0 ≤ laE'.toInt ∧ laE'.toInt ≤ 65535) ∧ (0 ≤ r.toInt ∧ r.toInt ≤ 1) ∧ (0 ≤ suE'.toInt ∧ suE'.toInt ≤ 200 * leE'.toInt ∧ 0 ≤ leE'.toInt ∧ leE'.toInt ≤ reE'.toInt ∧ reE'.toInt ≤ en.toInt) ∧ (F_s8 r reE reE' laE laE' suE suE' leE leE' (tcC fK1 fK2) (dl cd f41 f51 fu en.toInt) (dx cd f41 f51 fu en.toInt))) A := ⟨_, rfl⟩
  rw [← hQQ]
  refine lv_aload_n hx hb dX8_step_0 rfl (lv_at hl 0 rfl) ?_
  refine va_get (D := (dC, dI)) (ci := 8) (v := .ref oC) (C := RX8) (T := TX8) (N := 6) hx hb hts in_X8 hown hK hP 0 rfl rfl 0 (by decide) (hts (.fieldLink RX8 9 "TextMender$Reading" "codes" "LTextMender$Codes;") (List.mem_of_getElem? (i := 1) rfl)) (fun _ h9 => h9) rfl dX8_step_1 ?_
  refine lv_iload_n hx hb dX8_step_4 rfl (lv_at hl 1 rfl) ?_
  refine lv_aload_n hx hb dX8_step_5 rfl (lv_at hl 2 rfl) ?_
  refine lv_aload_n hx hb dX8_step_6 rfl (lv_at hl 0 rfl) ?_
  refine va_get (D := (dC, dI)) (ci := 8) (v := .int reE) (C := RX8) (T := TX8) (N := 6) hx hb hts in_X8 hown hK hP 0 rfl rfl 2 (by decide) (hts (.fieldLink RX8 19 "TextMender$Reading" "reached" "I") (List.mem_of_getElem? (i := 2) rfl)) (fun _ h9 => h9) rfl dX8_step_7 ?_
  refine lv_iload_n hx hb dX8_step_10 rfl (lv_at hl 3 rfl) ?_
  have hPc := hP.sub (ws' := [(oC, .inr (2, [.ref o4, .ref o5])), (o4, .inr (10, [.ref a41, .ref a42, .ref a43, .int l4])), (a41, .inl (cI, 256, .inl f41)), (o5, .inr (10, [.ref a51, .ref a52, .ref a53, .int l5])), (a51, .inl (cI, 256, .inl f51)), (nu, .inr (5, [.ref au, .int lu])), (au, .inl (cI, cap, .inl fu))]) [1, 2, 3, 4, 5, 9, 10] rfl
  have hDc := hD.sub (ws' := [(oC, .inr (2, [.ref o4, .ref o5])), (o4, .inr (10, [.ref a41, .ref a42, .ref a43, .int l4])), (a41, .inl (cI, 256, .inl f41)), (o5, .inr (10, [.ref a51, .ref a52, .ref a53, .int l5])), (a51, .inl (cI, 256, .inl f51)), (nu, .inr (5, [.ref au, .int lu])), (au, .inl (cI, cap, .inl fu))]) [1, 2, 3, 4, 5, 9, 10] (by decide) rfl
  have hFc := va_free (wc := [(oC, .inr (2, [.ref o4, .ref o5])), (o4, .inr (10, [.ref a41, .ref a42, .ref a43, .int l4])), (a41, .inl (cI, 256, .inl f41)), (o5, .inr (10, [.ref a51, .ref a52, .ref a53, .int l5])), (a51, .inl (cI, 256, .inl f51)), (nu, .inr (5, [.ref au, .int lu])), (au, .inl (cI, cap, .inl fu))]) hD hS hA [1, 2, 3, 4, 5, 9, 10] rfl
  refine va_calli (va_runV (As := [.int cd, .ref nu, .int reE, .int en]) (rest := []) ⟨hx, hb, hml, hown, hts⟩ (f_X2_decode l dC dI cI cS s.heap.size oC nu o4 o5 a41 a42 a43 a51 a52 a53 au cap l4 f41 l5 f51 lu fu cd reE en (by omega) (by omega) (by omega) (by omega) (hby) (hL4) (hL5)) (cwV 4 hts gX8_step_X2_decode rfl rfl rfl (by decide +kernel) ⟨Nat.le_of_ble_eq_true rfl, Nat.le_of_ble_eq_true rfl⟩) ⟨fun a U g mk q => by obtain ⟨q0, q1, qP, qK, qD, qN0⟩ := q; exact ⟨q0, q1, qP, va_K.moved (u := U) (U := U.calling g mk a) (Vm.Alike.refl U.vm) qK, qD, va_Nw.same rfl rfl qN0⟩, va_recv hK hPc (ci := 2) (q0 := 0) rfl rfl, fun U hU hW => ⟨rfl, by rw [hU], by rw [hU]; exact hPc, va_K.moved hW.alike hK, hDc.weaken (fun _ _ _ _ => trivial), va_Nw.warmM hW hN52⟩⟩ rfl rfl hl.1 rfl (lv_room (Nat.le_of_ble_eq_true rfl)) dX8_step_11 ⟨Nat.le_of_ble_eq_true rfl, Nat.le_of_ble_eq_true rfl⟩) hS (fun q _ h => hFc q h) hFc (fun r_1 u t H1 locs ht hvm hw hB hz1 hk1 hS => ?_)
  subst hw
  obtain ⟨hP1, hD1, hf1_0⟩ := hB
  rw [ht] at hP1
  obtain ⟨hP, hD⟩ := va_join (wr := [(oE, .inr (8, [.ref oC, .ref oK, .int reE, .int laE, .int suE, .int leE])), (oK, .inr (3, [.ref k1, .ref k2, .int lK])), (k1, .inl (cI, 1024, .inl fK1)), (k2, .inl (cI, 1024, .inl fK2))]) (w1 := [(oC, .inr (2, [.ref o4, .ref o5])), (o4, .inr (10, [.ref a41, .ref a42, .ref a43, .int l4])), (a41, .inl (cI, 256, .inl f41)), (o5, .inr (10, [.ref a51, .ref a52, .ref a53, .int l5])), (a51, .inl (cI, 256, .inl f51)), (nu, .inr (5, [.ref au, .int lu])), (au, .inl (cI, cap, .inl fu))]) hP hD [1, 2, 3, 4, 5, 9, 10] [0, 6, 7, 8] rfl rfl (by decide) (by decide) hk1 hFc hP1 hD1
  generalize H1 = H at hP hS ⊢
  have hP : va_P (dC, dI) vwCl [(oE, .inr (8, [.ref oC, .ref oK, .int reE, .int laE, .int suE, .int leE])), (oK, .inr (3, [.ref k1, .ref k2, .int lK])), (k1, .inl (cI, 1024, .inl fK1)), (k2, .inl (cI, 1024, .inl fK2)), (oC, .inr (2, [.ref o4, .ref o5])), (o4, .inr (10, [.ref a41, .ref a42, .ref a43, .int l4])), (a41, .inl (cI, 256, .inl f41)), (o5, .inr (10, [.ref a51, .ref a52, .ref a53, .int l5])), (a51, .inl (cI, 256, .inl f51)), (nu, .inr (5, [.ref au, .int lu])), (au, .inl (cI, cap, .inl fu))] H := hP
  have hD : va_D A [(oE, .inr (8, [.ref oC, .ref oK, .int reE, .int laE, .int suE, .int leE])), (oK, .inr (3, [.ref k1, .ref k2, .int lK])), (k1, .inl (cI, 1024, .inl fK1)), (k2, .inl (cI, 1024, .inl fK2)), (oC, .inr (2, [.ref o4, .ref o5])), (o4, .inr (10, [.ref a41, .ref a42, .ref a43, .int l4])), (a41, .inl (cI, 256, .inl f41)), (o5, .inr (10, [.ref a51, .ref a52, .ref a53, .int l5])), (a51, .inl (cI, 256, .inl f51)), (nu, .inr (5, [.ref au, .int lu])), (au, .inl (cI, cap, .inl fu))] := hD
  refine lv_istore (lv' := [(4, .int r_1), (0, .ref oE), (1, .int cd), (2, .ref nu), (3, .int en)]) hx hb dX8_step_14 hl (by decide) rfl (fun ls hl => ?_)
  refine lv_iload hx hb dX8_step_16 (lv_at hl 0 rfl) ?_
  refine lv_iconst (v := (-1)) hx hb dX8_step_18 (by decide) ?_
  refine lv_icmp_ne (tgt := 24) hx hb dX8_step_19 (by decide) (fun c_2 => ?_) (fun c_2 => ?_)
  · have tc_2 : ¬ r_1.toInt = (-1) := v_ne c_2
    obtain ⟨l9, x9, hD9, hr9, hx9, hy9⟩ := F_dc_1 hf1_0 c_2
    have cp9 := v_clamp (x := reE) (by omega)
    have hp9 := Dec_pos hD9
    have hd9 := dl_of hD9
    refine lv_iload hx hb dX8_step_24 (lv_at hl 0 rfl) ?_
    have hPc := hP.sub (ws' := []) [] rfl
    have hDc := hD.sub (ws' := []) [] (by decide) rfl
    have hFc := va_free (wc := []) hD hS hA [] rfl
    refine va_calli (va_runS (As := [.int r_1]) (rest := []) ⟨hx, hb, hml, hown, hts⟩ (f_X2_letterIn l dC dI cI cS H.size r_1 ) (va_cwS 1 hts gX8_step_X2_letterIn rfl rfl rfl (by decide +kernel) ⟨Nat.le_of_ble_eq_true rfl, Nat.le_of_ble_eq_true rfl⟩) ⟨fun a U g mk q => by obtain ⟨q0, q1, qP, qK, qD⟩ := q; exact ⟨q0, q1, qP, va_K.moved (u := U) (U := U.calling g mk a) (Vm.Alike.refl U.vm) qK, qD⟩, fun U hU hW => ⟨rfl, by rw [hU], by rw [hU]; exact hPc, va_K.moved hW.alike hK, hDc.weaken (fun _ _ _ _ => trivial)⟩⟩ rfl rfl hl.1 rfl (lv_room (Nat.le_of_ble_eq_true rfl)) dX8_step_26 ⟨Nat.le_of_ble_eq_true rfl, Nat.le_of_ble_eq_true rfl⟩) hS (fun q _ h => hFc q h) hFc (fun r_3 u t H1 locs ht hvm hw hB hz1 hk1 hS => ?_)
    subst hw
    obtain ⟨hP1, hD1, hf3_0⟩ := hB
    rw [ht] at hP1
    obtain ⟨hP, hD⟩ := va_join (wr := [(oE, .inr (8, [.ref oC, .ref oK, .int reE, .int laE, .int suE, .int leE])), (oK, .inr (3, [.ref k1, .ref k2, .int lK])), (k1, .inl (cI, 1024, .inl fK1)), (k2, .inl (cI, 1024, .inl fK2)), (oC, .inr (2, [.ref o4, .ref o5])), (o4, .inr (10, [.ref a41, .ref a42, .ref a43, .int l4])), (a41, .inl (cI, 256, .inl f41)), (o5, .inr (10, [.ref a51, .ref a52, .ref a53, .int l5])), (a51, .inl (cI, 256, .inl f51)), (nu, .inr (5, [.ref au, .int lu])), (au, .inl (cI, cap, .inl fu))]) (w1 := []) hP hD [] [0, 1, 2, 3, 4, 5, 6, 7, 8, 9, 10] rfl rfl (by decide) (by decide) hk1 hFc hP1 hD1
    generalize H1 = H at hP hS ⊢
    have hP : va_P (dC, dI) vwCl [(oE, .inr (8, [.ref oC, .ref oK, .int reE, .int laE, .int suE, .int leE])), (oK, .inr (3, [.ref k1, .ref k2, .int lK])), (k1, .inl (cI, 1024, .inl fK1)), (k2, .inl (cI, 1024, .inl fK2)), (oC, .inr (2, [.ref o4, .ref o5])), (o4, .inr (10, [.ref a41, .ref a42, .ref a43, .int l4])), (a41, .inl (cI, 256, .inl f41)), (o5, .inr (10, [.ref a51, .ref a52, .ref a53, .int l5])), (a51, .inl (cI, 256, .inl f51)), (nu, .inr (5, [.ref au, .int lu])), (au, .inl (cI, cap, .inl fu))] H := hP
    have hD : va_D A [(oE, .inr (8, [.ref oC, .ref oK, .int reE, .int laE, .int suE, .int leE])), (oK, .inr (3, [.ref k1, .ref k2, .int lK])), (k1, .inl (cI, 1024, .inl fK1)), (k2, .inl (cI, 1024, .inl fK2)), (oC, .inr (2, [.ref o4, .ref o5])), (o4, .inr (10, [.ref a41, .ref a42, .ref a43, .int l4])), (a41, .inl (cI, 256, .inl f41)), (o5, .inr (10, [.ref a51, .ref a52, .ref a53, .int l5])), (a51, .inl (cI, 256, .inl f51)), (nu, .inr (5, [.ref au, .int lu])), (au, .inl (cI, cap, .inl fu))] := hD
    refine lv_istore (lv' := [(5, .int r_3), (4, .int r_1), (0, .ref oE), (1, .int cd), (2, .ref nu), (3, .int en)]) hx hb dX8_step_29 hl (by decide) rfl (fun ls hl => ?_)
    refine lv_aload_n hx hb dX8_step_31 rfl (lv_at hl 2 rfl) ?_
    refine lv_dup hx hb dX8_step_32 rfl ?_
    refine va_get (D := (dC, dI)) (ci := 8) (v := .int suE) (C := RX8) (T := TX8) (N := 6) hx hb hts in_X8 hown hK hP 0 rfl rfl 4 (by decide) (hts (.fieldLink RX8 26 "TextMender$Reading" "sum" "I") (List.mem_of_getElem? (i := 3) rfl)) (fun _ h9 => h9) rfl dX8_step_33 ?_
    refine lv_aload_n hx hb dX8_step_36 rfl (lv_at hl 2 rfl) ?_
    refine va_get (D := (dC, dI)) (ci := 8) (v := .ref oK) (C := RX8) (T := TX8) (N := 6) hx hb hts in_X8 hown hK hP 0 rfl rfl 1 (by decide) (hts (.fieldLink RX8 15 "TextMender$Reading" "costs" "LTextMender$Costs;") (List.mem_of_getElem? (i := 4) rfl)) (fun _ h9 => h9) rfl dX8_step_37 ?_
    refine lv_aload_n hx hb dX8_step_40 rfl (lv_at hl 2 rfl) ?_
    refine va_get (D := (dC, dI)) (ci := 8) (v := .int laE) (C := RX8) (T := TX8) (N := 6) hx hb hts in_X8 hown hK hP 0 rfl rfl 3 (by decide) (hts (.fieldLink RX8 23 "TextMender$Reading" "latest" "I") (List.mem_of_getElem? (i := 5) rfl)) (fun _ h9 => h9) rfl dX8_step_41 ?_
    refine lv_iload hx hb dX8_step_44 (lv_at hl 0 rfl) ?_
    have hPc := hP.sub (ws' := [(oK, .inr (3, [.ref k1, .ref k2, .int lK])), (k1, .inl (cI, 1024, .inl fK1)), (k2, .inl (cI, 1024, .inl fK2))]) [1, 2, 3] rfl
    have hDc := hD.sub (ws' := [(oK, .inr (3, [.ref k1, .ref k2, .int lK])), (k1, .inl (cI, 1024, .inl fK1)), (k2, .inl (cI, 1024, .inl fK2))]) [1, 2, 3] (by decide) rfl
    have hFc := va_free (wc := [(oK, .inr (3, [.ref k1, .ref k2, .int lK])), (k1, .inl (cI, 1024, .inl fK1)), (k2, .inl (cI, 1024, .inl fK2))]) hD hS hA [1, 2, 3] rfl
    refine va_calli (va_runV (As := [.int laE, .int r_3]) (rest := [.int suE, .ref oE]) ⟨hx, hb, hml, hown, hts⟩ (f_X3_of l dC dI cI cS H.size oK k1 k2 lK fK1 fK2 laE r_3 (by omega) (by omega) (by omega) (hT) (ho) (hV)) (cwV 2 hts gX8_step_X3_of rfl rfl rfl (by decide +kernel) ⟨Nat.le_of_ble_eq_true rfl, Nat.le_of_ble_eq_true rfl⟩) ⟨fun a U g mk q => by obtain ⟨q0, q1, qP, qK, qD⟩ := q; exact ⟨q0, q1, qP, va_K.moved (u := U) (U := U.calling g mk a) (Vm.Alike.refl U.vm) qK, qD⟩, va_recv hK hPc (ci := 3) (q0 := 0) rfl rfl, fun U hU hW => ⟨rfl, by rw [hU], by rw [hU]; exact hPc, va_K.moved hW.alike hK, hDc.weaken (fun _ _ _ _ => trivial)⟩⟩ rfl rfl hl.1 rfl (lv_room (Nat.le_of_ble_eq_true rfl)) dX8_step_46 ⟨Nat.le_of_ble_eq_true rfl, Nat.le_of_ble_eq_true rfl⟩) hS (fun q _ h => hFc q h) hFc (fun r_4 u t H1 locs ht hvm hw hB hz1 hk1 hS => ?_)
    subst hw
    obtain ⟨hP1, hD1, hf4_0, hf4_1⟩ := hB
    rw [ht] at hP1
    obtain ⟨hP, hD⟩ := va_join (wr := [(oE, .inr (8, [.ref oC, .ref oK, .int reE, .int laE, .int suE, .int leE])), (oC, .inr (2, [.ref o4, .ref o5])), (o4, .inr (10, [.ref a41, .ref a42, .ref a43, .int l4])), (a41, .inl (cI, 256, .inl f41)), (o5, .inr (10, [.ref a51, .ref a52, .ref a53, .int l5])), (a51, .inl (cI, 256, .inl f51)), (nu, .inr (5, [.ref au, .int lu])), (au, .inl (cI, cap, .inl fu))]) (w1 := [(oK, .inr (3, [.ref k1, .ref k2, .int lK])), (k1, .inl (cI, 1024, .inl fK1)), (k2, .inl (cI, 1024, .inl fK2))]) hP hD [1, 2, 3] [0, 4, 5, 6, 7, 8, 9, 10] rfl rfl (by decide) (by decide) hk1 hFc hP1 hD1
    generalize H1 = H at hP hS ⊢
    have hP : va_P (dC, dI) vwCl [(oE, .inr (8, [.ref oC, .ref oK, .int reE, .int laE, .int suE, .int leE])), (oC, .inr (2, [.ref o4, .ref o5])), (o4, .inr (10, [.ref a41, .ref a42, .ref a43, .int l4])), (a41, .inl (cI, 256, .inl f41)), (o5, .inr (10, [.ref a51, .ref a52, .ref a53, .int l5])), (a51, .inl (cI, 256, .inl f51)), (nu, .inr (5, [.ref au, .int lu])), (au, .inl (cI, cap, .inl fu)), (oK, .inr (3, [.ref k1, .ref k2, .int lK])), (k1, .inl (cI, 1024, .inl fK1)), (k2, .inl (cI, 1024, .inl fK2))] H := hP
    have hD : va_D A [(oE, .inr (8, [.ref oC, .ref oK, .int reE, .int laE, .int suE, .int leE])), (oC, .inr (2, [.ref o4, .ref o5])), (o4, .inr (10, [.ref a41, .ref a42, .ref a43, .int l4])), (a41, .inl (cI, 256, .inl f41)), (o5, .inr (10, [.ref a51, .ref a52, .ref a53, .int l5])), (a51, .inl (cI, 256, .inl f51)), (nu, .inr (5, [.ref au, .int lu])), (au, .inl (cI, cap, .inl fu)), (oK, .inr (3, [.ref k1, .ref k2, .int lK])), (k1, .inl (cI, 1024, .inl fK1)), (k2, .inl (cI, 1024, .inl fK2))] := hD
    refine lv_iadd hx hb dX8_step_49 ?_
    refine lv_topi (fun x_5 ex_5 => ?_)
    have tx_5 : x_5.toInt = suE.toInt + r_4.toInt := v_add ex_5 (by show -2147483648 ≤ suE.toInt + r_4.toInt; omega) (by show suE.toInt + r_4.toInt < 2147483648; omega)
    refine va_put (D := (dC, dI)) (ci := 8) (v := .int x_5) (ty := .int) (C := RX8) (T := TX8) (N := 6) hx hb hts in_X8 tyX8 tyX8_ok nmX8 hown hK hP hD hS 0 rfl rfl 4 (by decide) (hts (.fieldLink RX8 26 "TextMender$Reading" "sum" "I") (List.mem_of_getElem? (i := 3) rfl)) (fun _ h9 => h9) rfl (by decide +kernel) rfl rfl (Nat.le_of_ble_eq_true rfl) dX8_step_50 (fun H locs hP hD hS => ?_)
    have hP : va_P (dC, dI) vwCl [(oE, .inr (8, [.ref oC, .ref oK, .int reE, .int laE, .int x_5, .int leE])), (oC, .inr (2, [.ref o4, .ref o5])), (o4, .inr (10, [.ref a41, .ref a42, .ref a43, .int l4])), (a41, .inl (cI, 256, .inl f41)), (o5, .inr (10, [.ref a51, .ref a52, .ref a53, .int l5])), (a51, .inl (cI, 256, .inl f51)), (nu, .inr (5, [.ref au, .int lu])), (au, .inl (cI, cap, .inl fu)), (oK, .inr (3, [.ref k1, .ref k2, .int lK])), (k1, .inl (cI, 1024, .inl fK1)), (k2, .inl (cI, 1024, .inl fK2))] H := hP
    have hD : va_D A [(oE, .inr (8, [.ref oC, .ref oK, .int reE, .int laE, .int x_5, .int leE])), (oC, .inr (2, [.ref o4, .ref o5])), (o4, .inr (10, [.ref a41, .ref a42, .ref a43, .int l4])), (a41, .inl (cI, 256, .inl f41)), (o5, .inr (10, [.ref a51, .ref a52, .ref a53, .int l5])), (a51, .inl (cI, 256, .inl f51)), (nu, .inr (5, [.ref au, .int lu])), (au, .inl (cI, cap, .inl fu)), (oK, .inr (3, [.ref k1, .ref k2, .int lK])), (k1, .inl (cI, 1024, .inl fK1)), (k2, .inl (cI, 1024, .inl fK2))] := hD
    refine lv_aload_n hx hb dX8_step_53 rfl (lv_at hl 2 rfl) ?_
    refine lv_iload hx hb dX8_step_54 (lv_at hl 0 rfl) ?_
    refine va_put (D := (dC, dI)) (ci := 8) (v := .int r_3) (ty := .int) (C := RX8) (T := TX8) (N := 6) hx hb hts in_X8 tyX8 tyX8_ok nmX8 hown hK hP hD hS 0 rfl rfl 3 (by decide) (hts (.fieldLink RX8 23 "TextMender$Reading" "latest" "I") (List.mem_of_getElem? (i := 5) rfl)) (fun _ h9 => h9) rfl (by decide +kernel) rfl rfl (Nat.le_of_ble_eq_true rfl) dX8_step_56 (fun H locs hP hD hS => ?_)
    have hP : va_P (dC, dI) vwCl [(oE, .inr (8, [.ref oC, .ref oK, .int reE, .int r_3, .int x_5, .int leE])), (oC, .inr (2, [.ref o4, .ref o5])), (o4, .inr (10, [.ref a41, .ref a42, .ref a43, .int l4])), (a41, .inl (cI, 256, .inl f41)), (o5, .inr (10, [.ref a51, .ref a52, .ref a53, .int l5])), (a51, .inl (cI, 256, .inl f51)), (nu, .inr (5, [.ref au, .int lu])), (au, .inl (cI, cap, .inl fu)), (oK, .inr (3, [.ref k1, .ref k2, .int lK])), (k1, .inl (cI, 1024, .inl fK1)), (k2, .inl (cI, 1024, .inl fK2))] H := hP
    have hD : va_D A [(oE, .inr (8, [.ref oC, .ref oK, .int reE, .int r_3, .int x_5, .int leE])), (oC, .inr (2, [.ref o4, .ref o5])), (o4, .inr (10, [.ref a41, .ref a42, .ref a43, .int l4])), (a41, .inl (cI, 256, .inl f41)), (o5, .inr (10, [.ref a51, .ref a52, .ref a53, .int l5])), (a51, .inl (cI, 256, .inl f51)), (nu, .inr (5, [.ref au, .int lu])), (au, .inl (cI, cap, .inl fu)), (oK, .inr (3, [.ref k1, .ref k2, .int lK])), (k1, .inl (cI, 1024, .inl fK1)), (k2, .inl (cI, 1024, .inl fK2))] := hD
    refine lv_aload_n hx hb dX8_step_59 rfl (lv_at hl 2 rfl) ?_
    refine lv_dup hx hb dX8_step_60 rfl ?_
    refine va_get (D := (dC, dI)) (ci := 8) (v := .int leE) (C := RX8) (T := TX8) (N := 6) hx hb hts in_X8 hown hK hP 0 rfl rfl 5 (by decide) (hts (.fieldLink RX8 29 "TextMender$Reading" "letters" "I") (List.mem_of_getElem? (i := 6) rfl)) (fun _ h9 => h9) rfl dX8_step_61 ?_
    refine lv_iconst (v := 1) hx hb dX8_step_64 (by decide) ?_
    refine lv_iadd hx hb dX8_step_65 ?_
    refine lv_topi (fun x_6 ex_6 => ?_)
    have tx_6 : x_6.toInt = leE.toInt + 1 := v_add ex_6 (by show -2147483648 ≤ leE.toInt + 1; omega) (by show leE.toInt + 1 < 2147483648; omega)
    refine va_put (D := (dC, dI)) (ci := 8) (v := .int x_6) (ty := .int) (C := RX8) (T := TX8) (N := 6) hx hb hts in_X8 tyX8 tyX8_ok nmX8 hown hK hP hD hS 0 rfl rfl 5 (by decide) (hts (.fieldLink RX8 29 "TextMender$Reading" "letters" "I") (List.mem_of_getElem? (i := 6) rfl)) (fun _ h9 => h9) rfl (by decide +kernel) rfl rfl (Nat.le_of_ble_eq_true rfl) dX8_step_66 (fun H locs hP hD hS => ?_)
    have hP : va_P (dC, dI) vwCl [(oE, .inr (8, [.ref oC, .ref oK, .int reE, .int r_3, .int x_5, .int x_6])), (oC, .inr (2, [.ref o4, .ref o5])), (o4, .inr (10, [.ref a41, .ref a42, .ref a43, .int l4])), (a41, .inl (cI, 256, .inl f41)), (o5, .inr (10, [.ref a51, .ref a52, .ref a53, .int l5])), (a51, .inl (cI, 256, .inl f51)), (nu, .inr (5, [.ref au, .int lu])), (au, .inl (cI, cap, .inl fu)), (oK, .inr (3, [.ref k1, .ref k2, .int lK])), (k1, .inl (cI, 1024, .inl fK1)), (k2, .inl (cI, 1024, .inl fK2))] H := hP
    have hD : va_D A [(oE, .inr (8, [.ref oC, .ref oK, .int reE, .int r_3, .int x_5, .int x_6])), (oC, .inr (2, [.ref o4, .ref o5])), (o4, .inr (10, [.ref a41, .ref a42, .ref a43, .int l4])), (a41, .inl (cI, 256, .inl f41)), (o5, .inr (10, [.ref a51, .ref a52, .ref a53, .int l5])), (a51, .inl (cI, 256, .inl f51)), (nu, .inr (5, [.ref au, .int lu])), (au, .inl (cI, cap, .inl fu)), (oK, .inr (3, [.ref k1, .ref k2, .int lK])), (k1, .inl (cI, 1024, .inl fK1)), (k2, .inl (cI, 1024, .inl fK2))] := hD
    refine lv_aload_n hx hb dX8_step_69 rfl (lv_at hl 2 rfl) ?_
    refine lv_dup hx hb dX8_step_70 rfl ?_
    refine va_get (D := (dC, dI)) (ci := 8) (v := .int reE) (C := RX8) (T := TX8) (N := 6) hx hb hts in_X8 hown hK hP 0 rfl rfl 2 (by decide) (hts (.fieldLink RX8 19 "TextMender$Reading" "reached" "I") (List.mem_of_getElem? (i := 2) rfl)) (fun _ h9 => h9) rfl dX8_step_71 ?_
    refine lv_iconst (v := 1) hx hb dX8_step_74 (by decide) ?_
    refine lv_iload hx hb dX8_step_75 (lv_at hl 1 rfl) ?_
    have hPc := hP.sub (ws' := []) [] rfl
    have hDc := hD.sub (ws' := []) [] (by decide) rfl
    have hFc := va_free (wc := []) hD hS hA [] rfl
    refine va_calli (va_runS (As := [.int r_1]) (rest := [.int 1, .int reE, .ref oE]) ⟨hx, hb, hml, hown, hts⟩ (f_X2_bytesIn l dC dI cI cS H.size r_1 (by omega)) (va_cwS 1 hts gX8_step_X2_bytesIn rfl rfl rfl (by decide +kernel) ⟨Nat.le_of_ble_eq_true rfl, Nat.le_of_ble_eq_true rfl⟩) ⟨fun a U g mk q => by obtain ⟨q0, q1, qP, qK, qD⟩ := q; exact ⟨q0, q1, qP, va_K.moved (u := U) (U := U.calling g mk a) (Vm.Alike.refl U.vm) qK, qD⟩, fun U hU hW => ⟨rfl, by rw [hU], by rw [hU]; exact hPc, va_K.moved hW.alike hK, hDc.weaken (fun _ _ _ _ => trivial)⟩⟩ rfl rfl hl.1 rfl (lv_room (Nat.le_of_ble_eq_true rfl)) dX8_step_77 ⟨Nat.le_of_ble_eq_true rfl, Nat.le_of_ble_eq_true rfl⟩) hS (fun q _ h => hFc q h) hFc (fun r_7 u t H1 locs ht hvm hw hB hz1 hk1 hS => ?_)
    subst hw
    obtain ⟨hP1, hD1, hf7_0, hf7_1⟩ := hB
    rw [ht] at hP1
    obtain ⟨hP, hD⟩ := va_join (wr := [(oE, .inr (8, [.ref oC, .ref oK, .int reE, .int r_3, .int x_5, .int x_6])), (oC, .inr (2, [.ref o4, .ref o5])), (o4, .inr (10, [.ref a41, .ref a42, .ref a43, .int l4])), (a41, .inl (cI, 256, .inl f41)), (o5, .inr (10, [.ref a51, .ref a52, .ref a53, .int l5])), (a51, .inl (cI, 256, .inl f51)), (nu, .inr (5, [.ref au, .int lu])), (au, .inl (cI, cap, .inl fu)), (oK, .inr (3, [.ref k1, .ref k2, .int lK])), (k1, .inl (cI, 1024, .inl fK1)), (k2, .inl (cI, 1024, .inl fK2))]) (w1 := []) hP hD [] [0, 1, 2, 3, 4, 5, 6, 7, 8, 9, 10] rfl rfl (by decide) (by decide) hk1 hFc hP1 hD1
    generalize H1 = H at hP hS ⊢
    have hP : va_P (dC, dI) vwCl [(oE, .inr (8, [.ref oC, .ref oK, .int reE, .int r_3, .int x_5, .int x_6])), (oC, .inr (2, [.ref o4, .ref o5])), (o4, .inr (10, [.ref a41, .ref a42, .ref a43, .int l4])), (a41, .inl (cI, 256, .inl f41)), (o5, .inr (10, [.ref a51, .ref a52, .ref a53, .int l5])), (a51, .inl (cI, 256, .inl f51)), (nu, .inr (5, [.ref au, .int lu])), (au, .inl (cI, cap, .inl fu)), (oK, .inr (3, [.ref k1, .ref k2, .int lK])), (k1, .inl (cI, 1024, .inl fK1)), (k2, .inl (cI, 1024, .inl fK2))] H := hP
    have hD : va_D A [(oE, .inr (8, [.ref oC, .ref oK, .int reE, .int r_3, .int x_5, .int x_6])), (oC, .inr (2, [.ref o4, .ref o5])), (o4, .inr (10, [.ref a41, .ref a42, .ref a43, .int l4])), (a41, .inl (cI, 256, .inl f41)), (o5, .inr (10, [.ref a51, .ref a52, .ref a53, .int l5])), (a51, .inl (cI, 256, .inl f51)), (nu, .inr (5, [.ref au, .int lu])), (au, .inl (cI, cap, .inl fu)), (oK, .inr (3, [.ref k1, .ref k2, .int lK])), (k1, .inl (cI, 1024, .inl fK1)), (k2, .inl (cI, 1024, .inl fK2))] := hD
    refine va_mmax hx hb (by rw [hml]; exact hl.1.symm) hown (hts (.methodLink RX8 51 Lib.Math.max.name) (List.mem_of_getElem? (i := 7) rfl)) (hts (.static Lib.Math.max.name) (List.mem_of_getElem? (i := 8) rfl)) (hts (.initialized "java/lang/Math") (List.mem_of_getElem? (i := 9) rfl)) (hts (.code Lib.Math.max.name Lib.Math.max.code 2 (some .int)) (List.mem_of_getElem? (i := 10) rfl)) (Nat.le_of_ble_eq_true rfl) (Nat.le_of_ble_eq_true rfl) (Nat.zero_le _) (Nat.zero_le _) dX8_step_80 ?_
    refine lv_topi (fun x_8 ex_8 => ?_)
    have tx_8 : 1 ≤ x_8.toInt ∧ r_7.toInt ≤ x_8.toInt ∧ (x_8.toInt = 1 ∨ x_8.toInt = r_7.toInt) := v_max ex_8
    refine lv_iadd hx hb dX8_step_83 ?_
    refine lv_topi (fun x_9 ex_9 => ?_)
    have tx_9 : x_9.toInt = reE.toInt + x_8.toInt := v_add ex_9 (by show -2147483648 ≤ reE.toInt + x_8.toInt; omega) (by show reE.toInt + x_8.toInt < 2147483648; omega)
    refine va_put (D := (dC, dI)) (ci := 8) (v := .int x_9) (ty := .int) (C := RX8) (T := TX8) (N := 6) hx hb hts in_X8 tyX8 tyX8_ok nmX8 hown hK hP hD hS 0 rfl rfl 2 (by decide) (hts (.fieldLink RX8 19 "TextMender$Reading" "reached" "I") (List.mem_of_getElem? (i := 2) rfl)) (fun _ h9 => h9) rfl (by decide +kernel) rfl rfl (Nat.le_of_ble_eq_true rfl) dX8_step_84 (fun H locs hP hD hS => ?_)
    have hP : va_P (dC, dI) vwCl [(oE, .inr (8, [.ref oC, .ref oK, .int x_9, .int r_3, .int x_5, .int x_6])), (oC, .inr (2, [.ref o4, .ref o5])), (o4, .inr (10, [.ref a41, .ref a42, .ref a43, .int l4])), (a41, .inl (cI, 256, .inl f41)), (o5, .inr (10, [.ref a51, .ref a52, .ref a53, .int l5])), (a51, .inl (cI, 256, .inl f51)), (nu, .inr (5, [.ref au, .int lu])), (au, .inl (cI, cap, .inl fu)), (oK, .inr (3, [.ref k1, .ref k2, .int lK])), (k1, .inl (cI, 1024, .inl fK1)), (k2, .inl (cI, 1024, .inl fK2))] H := hP
    have hD : va_D A [(oE, .inr (8, [.ref oC, .ref oK, .int x_9, .int r_3, .int x_5, .int x_6])), (oC, .inr (2, [.ref o4, .ref o5])), (o4, .inr (10, [.ref a41, .ref a42, .ref a43, .int l4])), (a41, .inl (cI, 256, .inl f41)), (o5, .inr (10, [.ref a51, .ref a52, .ref a53, .int l5])), (a51, .inl (cI, 256, .inl f51)), (nu, .inr (5, [.ref au, .int lu])), (au, .inl (cI, cap, .inl fu)), (oK, .inr (3, [.ref k1, .ref k2, .int lK])), (k1, .inl (cI, 1024, .inl fK1)), (k2, .inl (cI, 1024, .inl fK2))] := hD
    refine lv_iconst (v := 1) hx hb dX8_step_87 (by decide) ?_
    have hP9 := hP.sub (ws' := [(oE, .inr (8, [.ref oC, .ref oK, .int x_9, .int r_3, .int x_5, .int x_6])), (oC, .inr (2, [.ref o4, .ref o5])), (o4, .inr (10, [.ref a41, .ref a42, .ref a43, .int l4])), (a41, .inl (cI, 256, .inl f41)), (o5, .inr (10, [.ref a51, .ref a52, .ref a53, .int l5])), (a51, .inl (cI, 256, .inl f51)), (oK, .inr (3, [.ref k1, .ref k2, .int lK])), (k1, .inl (cI, 1024, .inl fK1)), (k2, .inl (cI, 1024, .inl fK2)), (nu, .inr (5, [.ref au, .int lu])), (au, .inl (cI, cap, .inl fu))]) [0, 1, 2, 3, 4, 5, 8, 9, 10, 6, 7] rfl
    have hD9 := hD.sub (ws' := [(oE, .inr (8, [.ref oC, .ref oK, .int x_9, .int r_3, .int x_5, .int x_6])), (oC, .inr (2, [.ref o4, .ref o5])), (o4, .inr (10, [.ref a41, .ref a42, .ref a43, .int l4])), (a41, .inl (cI, 256, .inl f41)), (o5, .inr (10, [.ref a51, .ref a52, .ref a53, .int l5])), (a51, .inl (cI, 256, .inl f51)), (oK, .inr (3, [.ref k1, .ref k2, .int lK])), (k1, .inl (cI, 1024, .inl fK1)), (k2, .inl (cI, 1024, .inl fK2)), (nu, .inr (5, [.ref au, .int lu])), (au, .inl (cI, cap, .inl fu))]) [0, 1, 2, 3, 4, 5, 8, 9, 10, 6, 7] (by decide) rfl
    rw [hQQ]
    exact W.zret (v := 1) (ty := .boolean) hx hb hr (rfl) (fun t ht hW => ⟨⟨1, 1, rfl, rfl, ⟨x_9, r_3, x_5, x_6, by rw [ht]; exact hP9, hD9, by omega, by decide, by show 0 ≤ x_5.toInt ∧ x_5.toInt ≤ 200 * x_6.toInt ∧ 0 ≤ x_6.toInt ∧ x_6.toInt ≤ x_9.toInt ∧ x_9.toInt ≤ en.toInt; omega, Or.inl ⟨rfl, by rw [hd9.1]; omega, by rw [hd9.1]; omega, by rw [hd9.2]; exact (show r_3 = x9 from v_inj (by omega)), by rw [hd9.2, ← (show r_3 = x9 from v_inj (by omega))]; have q9 := hf4_1; omega, by omega⟩⟩⟩, hS.F ht⟩) hS.2.2 dX8_step_88
  · have tc_2 : r_1.toInt = (-1) := v_eq c_2
    refine lv_iconst (v := 0) hx hb dX8_step_22 (by decide) ?_
    have hP9 := hP.sub (ws' := [(oE, .inr (8, [.ref oC, .ref oK, .int reE, .int laE, .int suE, .int leE])), (oC, .inr (2, [.ref o4, .ref o5])), (o4, .inr (10, [.ref a41, .ref a42, .ref a43, .int l4])), (a41, .inl (cI, 256, .inl f41)), (o5, .inr (10, [.ref a51, .ref a52, .ref a53, .int l5])), (a51, .inl (cI, 256, .inl f51)), (oK, .inr (3, [.ref k1, .ref k2, .int lK])), (k1, .inl (cI, 1024, .inl fK1)), (k2, .inl (cI, 1024, .inl fK2)), (nu, .inr (5, [.ref au, .int lu])), (au, .inl (cI, cap, .inl fu))]) [0, 4, 5, 6, 7, 8, 1, 2, 3, 9, 10] rfl
    have hD9 := hD.sub (ws' := [(oE, .inr (8, [.ref oC, .ref oK, .int reE, .int laE, .int suE, .int leE])), (oC, .inr (2, [.ref o4, .ref o5])), (o4, .inr (10, [.ref a41, .ref a42, .ref a43, .int l4])), (a41, .inl (cI, 256, .inl f41)), (o5, .inr (10, [.ref a51, .ref a52, .ref a53, .int l5])), (a51, .inl (cI, 256, .inl f51)), (oK, .inr (3, [.ref k1, .ref k2, .int lK])), (k1, .inl (cI, 1024, .inl fK1)), (k2, .inl (cI, 1024, .inl fK2)), (nu, .inr (5, [.ref au, .int lu])), (au, .inl (cI, cap, .inl fu))]) [0, 4, 5, 6, 7, 8, 1, 2, 3, 9, 10] (by decide) rfl
    rw [hQQ]
    exact W.zret (v := 0) (ty := .boolean) hx hb hr (rfl) (fun t ht hW => ⟨⟨0, 0, rfl, rfl, ⟨reE, laE, suE, leE, by rw [ht]; exact hP9, hD9, by omega, by decide, by show 0 ≤ suE.toInt ∧ suE.toInt ≤ 200 * leE.toInt ∧ 0 ≤ leE.toInt ∧ leE.toInt ≤ reE.toInt ∧ reE.toInt ≤ en.toInt; omega, Or.inr ⟨rfl, F_dc_0 hf1_0 c_2, rfl, rfl, rfl, rfl⟩⟩⟩, hS.F ht⟩) hS.2.2 dX8_step_23

theorem s8_0 {r re re' la la' su su' le le' : Int32} {T : Int32 → Int32 → Int32} {D : Nat → Nat} {X : Nat → Int32} (h : F_s8 r re re' la la' su su' le le' T D X) (h0 : r.toInt = 0) : D re'.toNatClampNeg = 0 := by
  rcases h with ⟨a, _⟩ | ⟨_, a1, a2, _⟩
  · rw [a] at h0; exact absurd h0 (by decide)
  · rw [a2]; exact a1
theorem s8_1 {r re re' la la' su su' le le' : Int32} {T : Int32 → Int32 → Int32} {D : Nat → Nat} {X : Nat → Int32} (h : F_s8 r re re' la la' su su' le le' T D X) (h1 : ¬ r.toInt = 0) : re.toInt + 1 ≤ re'.toInt := by
  rcases h with ⟨_, a1, a2, _⟩ | ⟨a, _⟩
  · omega
  · exact absurd (by rw [a]; rfl) h1

set_option maxHeartbeats 40000000 in
set_option maxRecDepth 100000 in
theorem f_X8_goOn (l : Launch) (dC : Nat → ClassId) (dI : Nat → Nat → Nat) (cI cS : ClassId) (sz : Nat) (oE : Nat) (nu : Nat) (oC : Nat) (oK : Nat) (o4 : Nat) (o5 : Nat) (a41 : Nat) (a42 : Nat) (a43 : Nat) (a51 : Nat) (a52 : Nat) (a53 : Nat) (k1 : Nat) (k2 : Nat) (au : Nat) (cap : Nat) (reE : Int32) (laE : Int32) (suE : Int32) (leE : Int32) (l4 : Int32) (f41 : Nat → Int32) (l5 : Int32) (f51 : Nat → Int32) (lK : Int32) (fK1 : Nat → Int32) (fK2 : Nat → Int32) (lu : Int32) (fu : Nat → Int32) (cd : Int32) (en : Int32) (g_laE : 0 ≤ laE.toInt ∧ laE.toInt ≤ 65535) (g_lK : 0 ≤ lK.toInt ∧ lK.toInt ≤ 300) (g_lu : 0 ≤ lu.toInt ∧ lu.toInt ≤ (cap : Int)) (hcap : cap ≤ 2400) (hen : en.toInt ≤ lu.toInt) (hby : prg en.toInt 0 255 fu) (hL4 : prg 256 (-1) 65535 f41) (hL5 : prg 256 (-1) 65535 f51) (hT : HT 1024 1023 hsK fK1 fK2) (ho : (occ fK2 1024 : Int) ≤ lK.toInt) (hV : prg 1024 (-1) 200 fK2) (hn8E : 0 ≤ suE.toInt ∧ suE.toInt ≤ 200 * leE.toInt ∧ 0 ≤ leE.toInt ∧ leE.toInt ≤ reE.toInt ∧ reE.toInt ≤ en.toInt) (hrs : RS (tcC fK1 fK2) reE laE suE leE (dl cd f41 f51 fu en.toInt) (dx cd f41 f51 fu en.toInt)) : Met l yX8_goOn wsX8_goOn ({ frames := 4, cells := 0, slots := 0, locals := 99 } : Room) (va_Pc [.ref oE, .int cd, .ref nu, .int en] (fun U => U.heap.size = sz ∧ va_P (dC, dI) vwCl [(oE, .inr (8, [.ref oC, .ref oK, .int reE, .int laE, .int suE, .int leE])), (oC, .inr (2, [.ref o4, .ref o5])), (o4, .inr (10, [.ref a41, .ref a42, .ref a43, .int l4])), (a41, .inl (cI, 256, .inl f41)), (o5, .inr (10, [.ref a51, .ref a52, .ref a53, .int l5])), (a51, .inl (cI, 256, .inl f51)), (oK, .inr (3, [.ref k1, .ref k2, .int lK])), (k1, .inl (cI, 1024, .inl fK1)), (k2, .inl (cI, 1024, .inl fK2)), (nu, .inr (5, [.ref au, .int lu])), (au, .inl (cI, cap, .inl fu))] U.heap ∧ va_K (dC, dI) vwCl [(cI, .int), (cS, .short)] U ∧ va_D (fun _ => True) [(oE, .inr (8, [.ref oC, .ref oK, .int reE, .int laE, .int suE, .int leE])), (oC, .inr (2, [.ref o4, .ref o5])), (o4, .inr (10, [.ref a41, .ref a42, .ref a43, .int l4])), (a41, .inl (cI, 256, .inl f41)), (o5, .inr (10, [.ref a51, .ref a52, .ref a53, .int l5])), (a51, .inl (cI, 256, .inl f51)), (oK, .inr (3, [.ref k1, .ref k2, .int lK])), (k1, .inl (cI, 1024, .inl fK1)), (k2, .inl (cI, 1024, .inl fK2)), (nu, .inr (5, [.ref au, .int lu])), (au, .inl (cI, cap, .inl fu))] ∧ va_Nw (.methodLinkNest RX2 52 yX11_isLetter "TextMender") U)) (va_Qv (fun (_ : Unit) => True) (fun _ t => ∃ (reE' : Int32) (laE' : Int32) (suE' : Int32) (leE' : Int32), va_P (dC, dI) vwCl [(oE, .inr (8, [.ref oC, .ref oK, .int reE', .int laE', .int suE', .int leE'])), (oC, .inr (2, [.ref o4, .ref o5])), (o4, .inr (10, [.ref a41, .ref a42, .ref a43, .int l4])), (a41, .inl (cI, 256, .inl f41)), (o5, .inr (10, [.ref a51, .ref a52, .ref a53, .int l5])), (a51, .inl (cI, 256, .inl f51)), (oK, .inr (3, [.ref k1, .ref k2, .int lK])), (k1, .inl (cI, 1024, .inl fK1)), (k2, .inl (cI, 1024, .inl fK2)), (nu, .inr (5, [.ref au, .int lu])), (au, .inl (cI, cap, .inl fu))] t.heap ∧ va_D (va_A [(oE, .inr (8, [.ref oC, .ref oK, .int reE, .int laE, .int suE, .int leE])), (oC, .inr (2, [.ref o4, .ref o5])), (o4, .inr (10, [.ref a41, .ref a42, .ref a43, .int l4])), (a41, .inl (cI, 256, .inl f41)), (o5, .inr (10, [.ref a51, .ref a52, .ref a53, .int l5])), (a51, .inl (cI, 256, .inl f51)), (oK, .inr (3, [.ref k1, .ref k2, .int lK])), (k1, .inl (cI, 1024, .inl fK1)), (k2, .inl (cI, 1024, .inl fK2)), (nu, .inr (5, [.ref au, .int lu])), (au, .inl (cI, cap, .inl fu))] sz) [(oE, .inr (8, [.ref oC, .ref oK, .int reE', .int laE', .int suE', .int leE'])), (oC, .inr (2, [.ref o4, .ref o5])), (o4, .inr (10, [.ref a41, .ref a42, .ref a43, .int l4])), (a41, .inl (cI, 256, .inl f41)), (o5, .inr (10, [.ref a51, .ref a52, .ref a53, .int l5])), (a51, .inl (cI, 256, .inl f51)), (oK, .inr (3, [.ref k1, .ref k2, .int lK])), (k1, .inl (cI, 1024, .inl fK1)), (k2, .inl (cI, 1024, .inl fK2)), (nu, .inr (5, [.ref au, .int lu])), (au, .inl (cI, cap, .inl fu))] ∧ (0 ≤ laE'.toInt ∧ laE'.toInt ≤ 65535) ∧ (0 ≤ suE'.toInt ∧ suE'.toInt ≤ 200 * leE'.toInt ∧ 0 ≤ leE'.toInt ∧ leE'.toInt ≤ reE'.toInt ∧ reE'.toInt ≤ en.toInt) ∧ (RS (tcC fK1 fK2) reE' laE' suE' leE' (dl cd f41 f51 fu en.toInt) (dx cd f41 f51 fu en.toInt)) ∧ (reE'.toInt = en.toInt ∨ dl cd f41 f51 fu en.toInt reE'.toNatClampNeg = 0)) (va_A [(oE, .inr (8, [.ref oC, .ref oK, .int reE, .int laE, .int suE, .int leE])), (oC, .inr (2, [.ref o4, .ref o5])), (o4, .inr (10, [.ref a41, .ref a42, .ref a43, .int l4])), (a41, .inl (cI, 256, .inl f41)), (o5, .inr (10, [.ref a51, .ref a52, .ref a53, .int l5])), (a51, .inl (cI, 256, .inl f51)), (oK, .inr (3, [.ref k1, .ref k2, .int lK])), (k1, .inl (cI, 1024, .inl fK1)), (k2, .inl (cI, 1024, .inl fK2)), (nu, .inr (5, [.ref au, .int lu])), (au, .inl (cI, cap, .inl fu))] sz)) 0 0 (va_A [(oE, .inr (8, [.ref oC, .ref oK, .int reE, .int laE, .int suE, .int leE])), (oC, .inr (2, [.ref o4, .ref o5])), (o4, .inr (10, [.ref a41, .ref a42, .ref a43, .int l4])), (a41, .inl (cI, 256, .inl f41)), (o5, .inr (10, [.ref a51, .ref a52, .ref a53, .int l5])), (a51, .inl (cI, 256, .inl f51)), (oK, .inr (3, [.ref k1, .ref k2, .int lK])), (k1, .inl (cI, 1024, .inl fK1)), (k2, .inl (cI, 1024, .inl fK2)), (nu, .inr (5, [.ref au, .int lu])), (au, .inl (cI, cap, .inl fu))] sz) := by
  refine Met.ofW (cc := cX8_goOn) (maxL := 6) (ret := none) (by decide) rfl ?_
  intro p e s m args below meth c s₁ B hml hv
  obtain ⟨rfl, hsz, hP, hK, hD0, hN52⟩ := hv
  have hx := B.exec
  have hb := B.bytes
  have hr := B.returns
  have hts := atoms_spec (ws := wsX8_goOn) B.pre
  have hown : s.vm.findClass RX8 = some m.cls := findClass_of_methodNamed B.named
  have hlocks := B.notSynchronized
  have in_X8 : ∀ w ∈ wsX80, w ∈ wsX8_goOn := fun _ h => List.mem_cons_of_mem _ (List.mem_append_left _ (List.mem_append_left _ (List.mem_append_left _ (List.mem_append_left _ (List.mem_append_right _ (h))))))
  subst hsz
  have hD := hD0.self (sz := s.heap.size)
  generalize hAe : va_A [(oE, .inr (8, [.ref oC, .ref oK, .int reE, .int laE, .int suE, .int leE])), (oC, .inr (2, [.ref o4, .ref o5])), (o4, .inr (10, [.ref a41, .ref a42, .ref a43, .int l4])), (a41, .inl (cI, 256, .inl f41)), (o5, .inr (10, [.ref a51, .ref a52, .ref a53, .int l5])), (a51, .inl (cI, 256, .inl f51)), (oK, .inr (3, [.ref k1, .ref k2, .int lK])), (k1, .inl (cI, 1024, .inl fK1)), (k2, .inl (cI, 1024, .inl fK2)), (nu, .inr (5, [.ref au, .int lu])), (au, .inl (cI, cap, .inl fu))] s.heap.size = A at hD ⊢
  have hA : ∀ q : Nat, s.heap.size ≤ q → A q := fun q h => by rw [← hAe]; exact Or.inr h
  have hS : va_S A s.heap s.heap [] := va_S.rf
  have hP : va_P (dC, dI) vwCl [(oE, .inr (8, [.ref oC, .ref oK, .int reE, .int laE, .int suE, .int leE])), (oC, .inr (2, [.ref o4, .ref o5])), (o4, .inr (10, [.ref a41, .ref a42, .ref a43, .int l4])), (a41, .inl (cI, 256, .inl f41)), (o5, .inr (10, [.ref a51, .ref a52, .ref a53, .int l5])), (a51, .inl (cI, 256, .inl f51)), (oK, .inr (3, [.ref k1, .ref k2, .int lK])), (k1, .inl (cI, 1024, .inl fK1)), (k2, .inl (cI, 1024, .inl fK2)), (nu, .inr (5, [.ref au, .int lu])), (au, .inl (cI, cap, .inl fu))] s.heap := hP
  have hl := lv_entry ([.ref oE, .int cd, .ref nu, .int en]) (n := 6) (Nat.le_of_ble_eq_true rfl)
  rw [lg_entry_eq]
  generalize (lg_sl ([.ref oE, .int cd, .ref nu, .int en]) ++ List.replicate (6 - (lg_sl ([.ref oE, .int cd, .ref nu, .int en])).length) Slot.unset).toArray = ls at hl ⊢
  have hl : lv_has ls 6 [(0, .ref oE), (1, .int cd), (2, .ref nu), (3, .int en)] := hl
  obtain ⟨QQ, hQQ⟩ : ∃ QQ : Array Value → State → Outcome → State → Prop, QQ = va_Qv (fun (_ : Unit) => True) (fun _ t => ∃ (reE' : Int32) (laE' : Int32) (suE' : Int32) (leE' : Int32), va_P (dC, dI) vwCl [(oE, .inr (8, [.ref oC, .ref oK, .int reE', .int laE', .int suE', .int leE'])), (oC, .inr (2, [.ref o4, .ref o5])), (o4, .inr (10, [.ref a41, .ref a42, .ref a43, .int l4])), (a41, .inl (cI, 256, .inl f41)), (o5, .inr (10, [.ref a51, .ref a52, .ref a53, .int l5])), (a51, .inl (cI, 256, .inl f51)), (oK, .inr (3, [.ref k1, .ref k2, .int lK])), (k1, .inl (cI, 1024, .inl fK1)), (k2, .inl (cI, 1024, .inl fK2)), (nu, .inr (5, [.ref au, .int lu])), (au, .inl (cI, cap, .inl fu))] t.heap ∧ va_D A [(oE, .inr (8, [.ref oC, .ref oK, .int reE', .int laE', .int suE', .int leE'])), (oC, .inr (2, [.ref o4, .ref o5])), (o4, .inr (10, [.ref a41, .ref a42, .ref a43, .int l4])), (a41, .inl (cI, 256, .inl f41)), (o5, .inr (10, [.ref a51, .ref a52, .ref a53, .int l5])), (a51, .inl (cI, 256, .inl f51)), (oK, .inr (3, [.ref k1, .ref k2, .int lK])), (k1, .inl (cI, 1024, .inl fK1)), (k2, .inl (cI, 1024, .inl fK2)), (nu, .inr (5, [.ref au, .int lu])), (au, .inl (cI, cap, .inl fu))] ∧ (0 ≤ laE'.toInt ∧ laE'.toInt ≤ 65535) ∧ (0 ≤ suE'.toInt ∧ suE'.toInt ≤ 200 * leE'.toInt ∧ 0 ≤ leE'.toInt ∧ leE'.toInt ≤ reE'.toInt ∧ reE'.toInt ≤ en.toInt) ∧ (RS (tcC fK1 fK2) reE' laE' suE' leE' (dl cd f41 f51 fu en.toInt) (dx cd f41 f51 fu en.toInt)) ∧ (reE'.toInt = en.toInt ∨ dl cd f41 f51 fu en.toInt reE'.toNatClampNeg = 0)) A := ⟨_, rfl⟩
  rw [← hQQ]
  have z0 : (0 : Int32).toInt = 0 := rfl
  have z1 : (1 : Int32).toInt = 1 := rfl
  have zm1 : (-1 : Int32).toInt = -1 := rfl
  refine lv_iload_n hx hb dX8_goOn_0 rfl (lv_at hl 3 rfl) ?_
  refine lv_aload_n hx hb dX8_goOn_1 rfl (lv_at hl 0 rfl) ?_
  refine va_get (D := (dC, dI)) (ci := 8) (v := .int reE) (C := RX8) (T := TX8) (N := 6) hx hb hts in_X8 hown hK hP 0 rfl rfl 2 (by decide) (hts (.fieldLink RX8 19 "TextMender$Reading" "reached" "I") (List.mem_of_getElem? (i := 1) rfl)) (fun _ h9 => h9) rfl dX8_goOn_2 ?_
  refine lv_isub hx hb dX8_goOn_5 ?_
  refine lv_topi (fun x_1 ex_1 => ?_)
  have tx_1 : x_1.toInt = en.toInt - reE.toInt := v_sub ex_1 (by show -2147483648 ≤ en.toInt - reE.toInt; omega) (by show en.toInt - reE.toInt < 2147483648; omega)
  refine lv_istore (lv' := [(4, .int x_1), (0, .ref oE), (1, .int cd), (2, .ref nu), (3, .int en)]) hx hb dX8_goOn_6 hl (by decide) rfl (fun ls hl => ?_)
  refine lv_iconst (v := 0) hx hb dX8_goOn_8 (by decide) ?_
  refine lv_istore (lv' := [(5, .int 0), (4, .int x_1), (0, .ref oE), (1, .int cd), (2, .ref nu), (3, .int en)]) hx hb dX8_goOn_9 hl (by decide) rfl (fun ls hl => ?_)
  have LOOP_11 : ∀ (k_11 : Nat) (k : Int32) (re2 : Int32) (la2 : Int32) (su2 : Int32) (le2 : Int32) (H : Heap) (locs : List Loc) (ls : Array Slot), (en.toInt - reE.toInt - k.toInt : Int).toNat < k_11 → (0 ≤ k.toInt ∧ k.toInt ≤ 2400) → (0 ≤ re2.toInt ∧ re2.toInt ≤ 2400) → (0 ≤ la2.toInt ∧ la2.toInt ≤ 65535) → (0 ≤ su2.toInt ∧ su2.toInt ≤ 480000) → (0 ≤ le2.toInt ∧ le2.toInt ≤ 2400) → (su2.toInt ≤ 200 * le2.toInt ∧ le2.toInt ≤ re2.toInt ∧ re2.toInt ≤ en.toInt) → (k.toInt ≤ re2.toInt - reE.toInt) → (RS (tcC fK1 fK2) re2 la2 su2 le2 (dl cd f41 f51 fu en.toInt) (dx cd f41 f51 fu en.toInt)) → va_P (dC, dI) vwCl [(oE, .inr (8, [.ref oC, .ref oK, .int re2, .int la2, .int su2, .int le2])), (oC, .inr (2, [.ref o4, .ref o5])), (o4, .inr (10, [.ref a41, .ref a42, .ref a43, .int l4])), (a41, .inl (cI, 256, .inl f41)), (o5, .inr (10, [.ref a51, .ref a52, .ref a53, .int l5])), (a51, .inl (cI, 256, .inl f51)), (oK, .inr (3, [.ref k1, .ref k2, .int lK])), (k1, .inl (cI, 1024, .inl fK1)), (k2, .inl (cI, 1024, .inl fK2)), (nu, .inr (5, [.ref au, .int lu])), (au, .inl (cI, cap, .inl fu))] H → va_D A [(oE, .inr (8, [.ref oC, .ref oK, .int re2, .int la2, .int su2, .int le2])), (oC, .inr (2, [.ref o4, .ref o5])), (o4, .inr (10, [.ref a41, .ref a42, .ref a43, .int l4])), (a41, .inl (cI, 256, .inl f41)), (o5, .inr (10, [.ref a51, .ref a52, .ref a53, .int l5])), (a51, .inl (cI, 256, .inl f51)), (oK, .inr (3, [.ref k1, .ref k2, .int lK])), (k1, .inl (cI, 1024, .inl fK1)), (k2, .inl (cI, 1024, .inl fK2)), (nu, .inr (5, [.ref au, .int lu])), (au, .inl (cI, cap, .inl fu))] → va_S A s.heap H locs → lv_has ls 6 [(5, .int k), (4, .int x_1), (0, .ref oE), (1, .int cd), (2, .ref nu), (3, .int en)] → W p l e (headSpec wsX8_goOn ({ frames := 4, cells := 0, slots := 0, locals := 99 } : Room)).room s m ([.ref oE, .int cd, .ref nu, .int en] : List Value).toArray below meth c H locs 0 0 (MQ below QQ ([.ref oE, .int cd, .ref nu, .int en] : List Value).toArray s 0 0 A) (F0 m 11 ls []) := by
    intro k_11
    induction k_11 with
    | zero =>
      intro k re2 la2 su2 le2 H locs ls hm_11 g_k g_re2 g_la2 g_su2 g_le2 hn2 hkr hrs2 hP hD hS hl
      exact absurd hm_11 (Nat.not_lt_zero _)
    | succ k_11 ih_11 =>
      intro k re2 la2 su2 le2 H locs ls hm_11 g_k g_re2 g_la2 g_su2 g_le2 hn2 hkr hrs2 hP hD hS hl
      refine lv_iload hx hb dX8_goOn_11 (lv_at hl 0 rfl) ?_
      refine lv_iload hx hb dX8_goOn_13 (lv_at hl 1 rfl) ?_
      refine lv_icmp_ge (tgt := 35) hx hb dX8_goOn_15 (by decide) (fun c_2 => ?_) (fun c_2 => ?_)
      · have tc_2 : x_1.toInt ≤ k.toInt := v_le c_2
        have hP9 := hP.sub (ws' := [(oE, .inr (8, [.ref oC, .ref oK, .int re2, .int la2, .int su2, .int le2])), (oC, .inr (2, [.ref o4, .ref o5])), (o4, .inr (10, [.ref a41, .ref a42, .ref a43, .int l4])), (a41, .inl (cI, 256, .inl f41)), (o5, .inr (10, [.ref a51, .ref a52, .ref a53, .int l5])), (a51, .inl (cI, 256, .inl f51)), (oK, .inr (3, [.ref k1, .ref k2, .int lK])), (k1, .inl (cI, 1024, .inl fK1)), (k2, .inl (cI, 1024, .inl fK2)), (nu, .inr (5, [.ref au, .int lu])), (au, .inl (cI, cap, .inl fu))]) [0, 1, 2, 3, 4, 5, 6, 7, 8, 9, 10] rfl
        have hD9 := hD.sub (ws' := [(oE, .inr (8, [.ref oC, .ref oK, .int re2, .int la2, .int su2, .int le2])), (oC, .inr (2, [.ref o4, .ref o5])), (o4, .inr (10, [.ref a41, .ref a42, .ref a43, .int l4])), (a41, .inl (cI, 256, .inl f41)), (o5, .inr (10, [.ref a51, .ref a52, .ref a53, .int l5])), (a51, .inl (cI, 256, .inl f51)), (oK, .inr (3, [.ref k1, .ref k2, .int lK])), (k1, .inl (cI, 1024, .inl fK1)), (k2, .inl (cI, 1024, .inl fK2)), (nu, .inr (5, [.ref au, .int lu])), (au, .inl (cI, cap, .inl fu))]) [0, 1, 2, 3, 4, 5, 6, 7, 8, 9, 10] (by decide) rfl
        rw [hQQ]
        exact W.vret hx hb hr (fun t ht hW => ⟨⟨(), rfl, trivial, ⟨re2, la2, su2, le2, by rw [ht]; exact hP9, hD9, by omega, by show 0 ≤ su2.toInt ∧ su2.toInt ≤ 200 * le2.toInt ∧ 0 ≤ le2.toInt ∧ le2.toInt ≤ re2.toInt ∧ re2.toInt ≤ en.toInt; omega, hrs2, Or.inl (by omega)⟩⟩, hS.F ht⟩) hS.2.2 dX8_goOn_35
      · have tc_2 : k.toInt < x_1.toInt := v_nle c_2
        refine lv_aload_n hx hb dX8_goOn_18 rfl (lv_at hl 2 rfl) ?_
        refine lv_iload_n hx hb dX8_goOn_19 rfl (lv_at hl 3 rfl) ?_
        refine lv_aload_n hx hb dX8_goOn_20 rfl (lv_at hl 4 rfl) ?_
        refine lv_iload_n hx hb dX8_goOn_21 rfl (lv_at hl 5 rfl) ?_
        have hPc := hP.sub (ws' := [(oE, .inr (8, [.ref oC, .ref oK, .int re2, .int la2, .int su2, .int le2])), (oC, .inr (2, [.ref o4, .ref o5])), (o4, .inr (10, [.ref a41, .ref a42, .ref a43, .int l4])), (a41, .inl (cI, 256, .inl f41)), (o5, .inr (10, [.ref a51, .ref a52, .ref a53, .int l5])), (a51, .inl (cI, 256, .inl f51)), (oK, .inr (3, [.ref k1, .ref k2, .int lK])), (k1, .inl (cI, 1024, .inl fK1)), (k2, .inl (cI, 1024, .inl fK2)), (nu, .inr (5, [.ref au, .int lu])), (au, .inl (cI, cap, .inl fu))]) [0, 1, 2, 3, 4, 5, 6, 7, 8, 9, 10] rfl
        have hDc := hD.sub (ws' := [(oE, .inr (8, [.ref oC, .ref oK, .int re2, .int la2, .int su2, .int le2])), (oC, .inr (2, [.ref o4, .ref o5])), (o4, .inr (10, [.ref a41, .ref a42, .ref a43, .int l4])), (a41, .inl (cI, 256, .inl f41)), (o5, .inr (10, [.ref a51, .ref a52, .ref a53, .int l5])), (a51, .inl (cI, 256, .inl f51)), (oK, .inr (3, [.ref k1, .ref k2, .int lK])), (k1, .inl (cI, 1024, .inl fK1)), (k2, .inl (cI, 1024, .inl fK2)), (nu, .inr (5, [.ref au, .int lu])), (au, .inl (cI, cap, .inl fu))]) [0, 1, 2, 3, 4, 5, 6, 7, 8, 9, 10] (by decide) rfl
        have hFc := va_free (wc := [(oE, .inr (8, [.ref oC, .ref oK, .int re2, .int la2, .int su2, .int le2])), (oC, .inr (2, [.ref o4, .ref o5])), (o4, .inr (10, [.ref a41, .ref a42, .ref a43, .int l4])), (a41, .inl (cI, 256, .inl f41)), (o5, .inr (10, [.ref a51, .ref a52, .ref a53, .int l5])), (a51, .inl (cI, 256, .inl f51)), (oK, .inr (3, [.ref k1, .ref k2, .int lK])), (k1, .inl (cI, 1024, .inl fK1)), (k2, .inl (cI, 1024, .inl fK2)), (nu, .inr (5, [.ref au, .int lu])), (au, .inl (cI, cap, .inl fu))]) hD hS hA [0, 1, 2, 3, 4, 5, 6, 7, 8, 9, 10] rfl
        refine va_calli (va_runV (As := [.int cd, .ref nu, .int en]) (rest := []) ⟨hx, hb, hml, hown, hts⟩ (f_X8_step l dC dI cI cS H.size oE nu oC oK o4 o5 a41 a42 a43 a51 a52 a53 k1 k2 au cap re2 la2 su2 le2 l4 f41 l5 f51 lK fK1 fK2 lu fu cd en (by omega) (by omega) (by omega) (by omega) (by omega) (hby) (hL4) (hL5) (hT) (ho) (hV) (by omega)) (cwV 3 hts gX8_goOn_X8_step rfl rfl rfl (by decide +kernel) ⟨Nat.le_of_ble_eq_true rfl, Nat.le_of_ble_eq_true rfl⟩) ⟨fun a U g mk q => by obtain ⟨q0, q1, qP, qK, qD, qN0⟩ := q; exact ⟨q0, q1, qP, va_K.moved (u := U) (U := U.calling g mk a) (Vm.Alike.refl U.vm) qK, qD, va_Nw.same rfl rfl qN0⟩, va_recv hK hPc (ci := 8) (q0 := 0) rfl rfl, fun U hU hW => ⟨rfl, by rw [hU], by rw [hU]; exact hPc, va_K.moved hW.alike hK, hDc.weaken (fun _ _ _ _ => trivial), va_Nw.warmM hW hN52⟩⟩ rfl rfl hl.1 rfl (lv_room (Nat.le_of_ble_eq_true rfl)) dX8_goOn_22 ⟨Nat.le_of_ble_eq_true rfl, Nat.le_of_ble_eq_true rfl⟩) hS (fun q _ h => hFc q h) hFc (fun r_3 u t H1 locs ht hvm hw hB hz1 hk1 hS => ?_)
        subst hw
        obtain ⟨reE_3, laE_3, suE_3, leE_3, hP1, hD1, hf3_0, hf3_1, hf3_2, hf3_3⟩ := hB
        rw [ht] at hP1
        obtain ⟨hP, hD⟩ := va_join (wr := []) (w1 := [(oE, .inr (8, [.ref oC, .ref oK, .int reE_3, .int laE_3, .int suE_3, .int leE_3])), (oC, .inr (2, [.ref o4, .ref o5])), (o4, .inr (10, [.ref a41, .ref a42, .ref a43, .int l4])), (a41, .inl (cI, 256, .inl f41)), (o5, .inr (10, [.ref a51, .ref a52, .ref a53, .int l5])), (a51, .inl (cI, 256, .inl f51)), (oK, .inr (3, [.ref k1, .ref k2, .int lK])), (k1, .inl (cI, 1024, .inl fK1)), (k2, .inl (cI, 1024, .inl fK2)), (nu, .inr (5, [.ref au, .int lu])), (au, .inl (cI, cap, .inl fu))]) hP hD [0, 1, 2, 3, 4, 5, 6, 7, 8, 9, 10] [] rfl rfl (by decide) (by decide) hk1 hFc hP1 hD1
        generalize H1 = H at hP hS ⊢
        have hP : va_P (dC, dI) vwCl [(oE, .inr (8, [.ref oC, .ref oK, .int reE_3, .int laE_3, .int suE_3, .int leE_3])), (oC, .inr (2, [.ref o4, .ref o5])), (o4, .inr (10, [.ref a41, .ref a42, .ref a43, .int l4])), (a41, .inl (cI, 256, .inl f41)), (o5, .inr (10, [.ref a51, .ref a52, .ref a53, .int l5])), (a51, .inl (cI, 256, .inl f51)), (oK, .inr (3, [.ref k1, .ref k2, .int lK])), (k1, .inl (cI, 1024, .inl fK1)), (k2, .inl (cI, 1024, .inl fK2)), (nu, .inr (5, [.ref au, .int lu])), (au, .inl (cI, cap, .inl fu))] H := hP
        have hD : va_D A [(oE, .inr (8, [.ref oC, .ref oK, .int reE_3, .int laE_3, .int suE_3, .int leE_3])), (oC, .inr (2, [.ref o4, .ref o5])), (o4, .inr (10, [.ref a41, .ref a42, .ref a43, .int l4])), (a41, .inl (cI, 256, .inl f41)), (o5, .inr (10, [.ref a51, .ref a52, .ref a53, .int l5])), (a51, .inl (cI, 256, .inl f51)), (oK, .inr (3, [.ref k1, .ref k2, .int lK])), (k1, .inl (cI, 1024, .inl fK1)), (k2, .inl (cI, 1024, .inl fK2)), (nu, .inr (5, [.ref au, .int lu])), (au, .inl (cI, cap, .inl fu))] := hD
        refine lv_if_ne (tgt := 29) hx hb dX8_goOn_25 (by decide) (fun c_4 => ?_) (fun c_4 => ?_)
        · have tc_4 : ¬ r_3.toInt = 0 := v_ne c_4
          have hs19 := s8_1 hf3_3 (by omega)
          obtain ⟨x_5, ex_5⟩ : ∃ y : Int32, y = k + 1 := ⟨_, rfl⟩
          have tx_5 : x_5.toInt = k.toInt + 1 := v_add ex_5 (by show -2147483648 ≤ k.toInt + 1; omega) (by show k.toInt + 1 < 2147483648; omega)
          refine lv_iinc (v := x_5) (lv' := [(5, .int x_5), (4, .int x_1), (0, .ref oE), (1, .int cd), (2, .ref nu), (3, .int en)]) hx hb dX8_goOn_29 hl (k := 0) rfl (by rw [ex_5]; rfl) (by decide) rfl (fun ls hl => ?_)
          refine lv_goto (tgt := 11) hx hb dX8_goOn_32 (by decide) ?_
          exact ih_11 x_5 reE_3 laE_3 suE_3 leE_3 _ _ _ (by have hm9 := hm_11; show ((en.toInt - reE.toInt - x_5.toInt : Int)).toNat < k_11; omega) (by show 0 ≤ x_5.toInt ∧ x_5.toInt ≤ 2400; omega) (by show 0 ≤ reE_3.toInt ∧ reE_3.toInt ≤ 2400; omega) (by show 0 ≤ laE_3.toInt ∧ laE_3.toInt ≤ 65535; omega) (by show 0 ≤ suE_3.toInt ∧ suE_3.toInt ≤ 480000; omega) (by show 0 ≤ leE_3.toInt ∧ leE_3.toInt ≤ 2400; omega) (by show suE_3.toInt ≤ 200 * leE_3.toInt ∧ leE_3.toInt ≤ reE_3.toInt ∧ reE_3.toInt ≤ en.toInt; omega) (by show x_5.toInt ≤ reE_3.toInt - reE.toInt; omega) (RS_s hrs2 hf3_3) hP hD hS (lv_sub hl [0, 1, 2, 3, 4, 5] rfl)
        · have tc_4 : r_3.toInt = 0 := v_eq c_4
          have hP9 := hP.sub (ws' := [(oE, .inr (8, [.ref oC, .ref oK, .int reE_3, .int laE_3, .int suE_3, .int leE_3])), (oC, .inr (2, [.ref o4, .ref o5])), (o4, .inr (10, [.ref a41, .ref a42, .ref a43, .int l4])), (a41, .inl (cI, 256, .inl f41)), (o5, .inr (10, [.ref a51, .ref a52, .ref a53, .int l5])), (a51, .inl (cI, 256, .inl f51)), (oK, .inr (3, [.ref k1, .ref k2, .int lK])), (k1, .inl (cI, 1024, .inl fK1)), (k2, .inl (cI, 1024, .inl fK2)), (nu, .inr (5, [.ref au, .int lu])), (au, .inl (cI, cap, .inl fu))]) [0, 1, 2, 3, 4, 5, 6, 7, 8, 9, 10] rfl
          have hD9 := hD.sub (ws' := [(oE, .inr (8, [.ref oC, .ref oK, .int reE_3, .int laE_3, .int suE_3, .int leE_3])), (oC, .inr (2, [.ref o4, .ref o5])), (o4, .inr (10, [.ref a41, .ref a42, .ref a43, .int l4])), (a41, .inl (cI, 256, .inl f41)), (o5, .inr (10, [.ref a51, .ref a52, .ref a53, .int l5])), (a51, .inl (cI, 256, .inl f51)), (oK, .inr (3, [.ref k1, .ref k2, .int lK])), (k1, .inl (cI, 1024, .inl fK1)), (k2, .inl (cI, 1024, .inl fK2)), (nu, .inr (5, [.ref au, .int lu])), (au, .inl (cI, cap, .inl fu))]) [0, 1, 2, 3, 4, 5, 6, 7, 8, 9, 10] (by decide) rfl
          rw [hQQ]
          exact W.vret hx hb hr (fun t ht hW => ⟨⟨(), rfl, trivial, ⟨reE_3, laE_3, suE_3, leE_3, by rw [ht]; exact hP9, hD9, by omega, by show 0 ≤ suE_3.toInt ∧ suE_3.toInt ≤ 200 * leE_3.toInt ∧ 0 ≤ leE_3.toInt ∧ leE_3.toInt ≤ reE_3.toInt ∧ reE_3.toInt ≤ en.toInt; omega, RS_s hrs2 hf3_3, Or.inr (s8_0 hf3_3 (by omega))⟩⟩, hS.F ht⟩) hS.2.2 dX8_goOn_28
  exact LOOP_11 _ 0 reE laE suE leE _ _ _ (Nat.lt_succ_self _) (by decide) (by show 0 ≤ reE.toInt ∧ reE.toInt ≤ 2400; omega) (by show 0 ≤ laE.toInt ∧ laE.toInt ≤ 65535; omega) (by show 0 ≤ suE.toInt ∧ suE.toInt ≤ 480000; omega) (by show 0 ≤ leE.toInt ∧ leE.toInt ≤ 2400; omega) (by show suE.toInt ≤ 200 * leE.toInt ∧ leE.toInt ≤ reE.toInt ∧ reE.toInt ≤ en.toInt; omega) (by show 0 ≤ reE.toInt - reE.toInt; omega) (hrs) hP hD hS (lv_sub hl [0, 1, 2, 3, 4, 5] rfl)

set_option maxHeartbeats 40000000 in
set_option maxRecDepth 100000 in
theorem f_X8_sumWith (l : Launch) (dC : Nat → ClassId) (dI : Nat → Nat → Nat) (cI cS : ClassId) (sz : Nat) (oE : Nat) (oC : Nat) (oK : Nat) (k1 : Nat) (k2 : Nat) (reE : Int32) (laE : Int32) (suE : Int32) (leE : Int32) (lK : Int32) (fK1 : Nat → Int32) (fK2 : Nat → Int32) (nx_ : Int32) (g_laE : 0 ≤ laE.toInt ∧ laE.toInt ≤ 65535) (g_suE : 0 ≤ suE.toInt ∧ suE.toInt ≤ 480000) (g_lK : 0 ≤ lK.toInt ∧ lK.toInt ≤ 300) (g_nx_ : 0 ≤ nx_.toInt ∧ nx_.toInt ≤ 65535) (hT : HT 1024 1023 hsK fK1 fK2) (ho : (occ fK2 1024 : Int) ≤ lK.toInt) (hV : prg 1024 (-1) 200 fK2) : Met l yX8_sumWith wsX8_sumWith ({ frames := 3, cells := 0, slots := 0, locals := 73 } : Room) (va_Pc [.ref oE, .int nx_] (fun U => U.heap.size = sz ∧ va_P (dC, dI) vwCl [(oE, .inr (8, [.ref oC, .ref oK, .int reE, .int laE, .int suE, .int leE])), (oK, .inr (3, [.ref k1, .ref k2, .int lK])), (k1, .inl (cI, 1024, .inl fK1)), (k2, .inl (cI, 1024, .inl fK2))] U.heap ∧ va_K (dC, dI) vwCl [(cI, .int), (cS, .short)] U ∧ va_D (fun _ => True) [(oE, .inr (8, [.ref oC, .ref oK, .int reE, .int laE, .int suE, .int leE])), (oK, .inr (3, [.ref k1, .ref k2, .int lK])), (k1, .inl (cI, 1024, .inl fK1)), (k2, .inl (cI, 1024, .inl fK2))])) (va_Qi (fun (r : Int32) (u : Int32) => r = u) (fun (r : Int32) t => va_P (dC, dI) vwCl [(oE, .inr (8, [.ref oC, .ref oK, .int reE, .int laE, .int suE, .int leE])), (oK, .inr (3, [.ref k1, .ref k2, .int lK])), (k1, .inl (cI, 1024, .inl fK1)), (k2, .inl (cI, 1024, .inl fK2))] t.heap ∧ va_D (va_A [(oE, .inr (8, [.ref oC, .ref oK, .int reE, .int laE, .int suE, .int leE])), (oK, .inr (3, [.ref k1, .ref k2, .int lK])), (k1, .inl (cI, 1024, .inl fK1)), (k2, .inl (cI, 1024, .inl fK2))] sz) [(oE, .inr (8, [.ref oC, .ref oK, .int reE, .int laE, .int suE, .int leE])), (oK, .inr (3, [.ref k1, .ref k2, .int lK])), (k1, .inl (cI, 1024, .inl fK1)), (k2, .inl (cI, 1024, .inl fK2))] ∧ (suE.toInt ≤ r.toInt ∧ r.toInt ≤ suE.toInt + 200) ∧ (r.toInt = suE.toInt + cF (tcC fK1 fK2 laE nx_) laE nx_)) (va_A [(oE, .inr (8, [.ref oC, .ref oK, .int reE, .int laE, .int suE, .int leE])), (oK, .inr (3, [.ref k1, .ref k2, .int lK])), (k1, .inl (cI, 1024, .inl fK1)), (k2, .inl (cI, 1024, .inl fK2))] sz)) 0 0 (va_A [(oE, .inr (8, [.ref oC, .ref oK, .int reE, .int laE, .int suE, .int leE])), (oK, .inr (3, [.ref k1, .ref k2, .int lK])), (k1, .inl (cI, 1024, .inl fK1)), (k2, .inl (cI, 1024, .inl fK2))] sz) := by
  refine Met.ofW (cc := cX8_sumWith) (maxL := 2) (ret := (some .int)) (by decide) rfl ?_
  intro p e s m args below meth c s₁ B hml hv
  obtain ⟨rfl, hsz, hP, hK, hD0⟩ := hv
  have hx := B.exec
  have hb := B.bytes
  have hr := B.returns
  have hts := atoms_spec (ws := wsX8_sumWith) B.pre
  have hown : s.vm.findClass RX8 = some m.cls := findClass_of_methodNamed B.named
  have hlocks := B.notSynchronized
  have in_X8 : ∀ w ∈ wsX80, w ∈ wsX8_sumWith := fun _ h => List.mem_cons_of_mem _ (List.mem_append_left _ (List.mem_append_right _ (h)))
  subst hsz
  have hD := hD0.self (sz := s.heap.size)
  generalize hAe : va_A [(oE, .inr (8, [.ref oC, .ref oK, .int reE, .int laE, .int suE, .int leE])), (oK, .inr (3, [.ref k1, .ref k2, .int lK])), (k1, .inl (cI, 1024, .inl fK1)), (k2, .inl (cI, 1024, .inl fK2))] s.heap.size = A at hD ⊢
  have hA : ∀ q : Nat, s.heap.size ≤ q → A q := fun q h => by rw [← hAe]; exact Or.inr h
  have hS : va_S A s.heap s.heap [] := va_S.rf
  have hP : va_P (dC, dI) vwCl [(oE, .inr (8, [.ref oC, .ref oK, .int reE, .int laE, .int suE, .int leE])), (oK, .inr (3, [.ref k1, .ref k2, .int lK])), (k1, .inl (cI, 1024, .inl fK1)), (k2, .inl (cI, 1024, .inl fK2))] s.heap := hP
  have hl := lv_entry ([.ref oE, .int nx_]) (n := 2) (Nat.le_of_ble_eq_true rfl)
  rw [lg_entry_eq]
  generalize (lg_sl ([.ref oE, .int nx_]) ++ List.replicate (2 - (lg_sl ([.ref oE, .int nx_])).length) Slot.unset).toArray = ls at hl ⊢
  have hl : lv_has ls 2 [(0, .ref oE), (1, .int nx_)] := hl
  obtain ⟨QQ, hQQ⟩ : ∃ QQ : Array Value → State → Outcome → State → Prop, QQ = va_Qi (fun (r : Int32) (u : Int32) => r = u) (fun (r : Int32) t => va_P (dC, dI) vwCl [(oE, .inr (8, [.ref oC, .ref oK, .int reE, .int laE, .int suE, .int leE])), (oK, .inr (3, [.ref k1, .ref k2, .int lK])), (k1, .inl (cI, 1024, .inl fK1)), (k2, .inl (cI, 1024, .inl fK2))] t.heap ∧ va_D A [(oE, .inr (8, [.ref oC, .ref oK, .int reE, .int laE, .int suE, .int leE])), (oK, .inr (3, [.ref k1, .ref k2, .int lK])), (k1, .inl (cI, 1024, .inl fK1)), (k2, .inl (cI, 1024, .inl fK2))] ∧ (suE.toInt ≤ r.toInt ∧ r.toInt ≤ suE.toInt + 200) ∧ (r.toInt = suE.toInt + cF (tcC fK1 fK2 laE nx_) laE nx_)) A := ⟨_, rfl⟩
  rw [← hQQ]
  refine lv_aload_n hx hb dX8_sumWith_0 rfl (lv_at hl 0 rfl) ?_
  refine va_get (D := (dC, dI)) (ci := 8) (v := .int suE) (C := RX8) (T := TX8) (N := 6) hx hb hts in_X8 hown hK hP 0 rfl rfl 4 (by decide) (hts (.fieldLink RX8 26 "TextMender$Reading" "sum" "I") (List.mem_of_getElem? (i := 1) rfl)) (fun _ h9 => h9) rfl dX8_sumWith_1 ?_
  refine lv_aload_n hx hb dX8_sumWith_4 rfl (lv_at hl 0 rfl) ?_
  refine va_get (D := (dC, dI)) (ci := 8) (v := .ref oK) (C := RX8) (T := TX8) (N := 6) hx hb hts in_X8 hown hK hP 0 rfl rfl 1 (by decide) (hts (.fieldLink RX8 15 "TextMender$Reading" "costs" "LTextMender$Costs;") (List.mem_of_getElem? (i := 2) rfl)) (fun _ h9 => h9) rfl dX8_sumWith_5 ?_
  refine lv_aload_n hx hb dX8_sumWith_8 rfl (lv_at hl 0 rfl) ?_
  refine va_get (D := (dC, dI)) (ci := 8) (v := .int laE) (C := RX8) (T := TX8) (N := 6) hx hb hts in_X8 hown hK hP 0 rfl rfl 3 (by decide) (hts (.fieldLink RX8 23 "TextMender$Reading" "latest" "I") (List.mem_of_getElem? (i := 3) rfl)) (fun _ h9 => h9) rfl dX8_sumWith_9 ?_
  refine lv_iload_n hx hb dX8_sumWith_12 rfl (lv_at hl 1 rfl) ?_
  have hPc := hP.sub (ws' := [(oK, .inr (3, [.ref k1, .ref k2, .int lK])), (k1, .inl (cI, 1024, .inl fK1)), (k2, .inl (cI, 1024, .inl fK2))]) [1, 2, 3] rfl
  have hDc := hD.sub (ws' := [(oK, .inr (3, [.ref k1, .ref k2, .int lK])), (k1, .inl (cI, 1024, .inl fK1)), (k2, .inl (cI, 1024, .inl fK2))]) [1, 2, 3] (by decide) rfl
  have hFc := va_free (wc := [(oK, .inr (3, [.ref k1, .ref k2, .int lK])), (k1, .inl (cI, 1024, .inl fK1)), (k2, .inl (cI, 1024, .inl fK2))]) hD hS hA [1, 2, 3] rfl
  refine va_calli (va_runV (As := [.int laE, .int nx_]) (rest := [.int suE]) ⟨hx, hb, hml, hown, hts⟩ (f_X3_of l dC dI cI cS s.heap.size oK k1 k2 lK fK1 fK2 laE nx_ (by omega) (by omega) (by omega) (hT) (ho) (hV)) (cwV 2 hts gX8_sumWith_X3_of rfl rfl rfl (by decide +kernel) ⟨Nat.le_of_ble_eq_true rfl, Nat.le_of_ble_eq_true rfl⟩) ⟨fun a U g mk q => by obtain ⟨q0, q1, qP, qK, qD⟩ := q; exact ⟨q0, q1, qP, va_K.moved (u := U) (U := U.calling g mk a) (Vm.Alike.refl U.vm) qK, qD⟩, va_recv hK hPc (ci := 3) (q0 := 0) rfl rfl, fun U hU hW => ⟨rfl, by rw [hU], by rw [hU]; exact hPc, va_K.moved hW.alike hK, hDc.weaken (fun _ _ _ _ => trivial)⟩⟩ rfl rfl hl.1 rfl (lv_room (Nat.le_of_ble_eq_true rfl)) dX8_sumWith_13 ⟨Nat.le_of_ble_eq_true rfl, Nat.le_of_ble_eq_true rfl⟩) hS (fun q _ h => hFc q h) hFc (fun r_1 u t H1 locs ht hvm hw hB hz1 hk1 hS => ?_)
  subst hw
  obtain ⟨hP1, hD1, hf1_0, hf1_1⟩ := hB
  rw [ht] at hP1
  obtain ⟨hP, hD⟩ := va_join (wr := [(oE, .inr (8, [.ref oC, .ref oK, .int reE, .int laE, .int suE, .int leE]))]) (w1 := [(oK, .inr (3, [.ref k1, .ref k2, .int lK])), (k1, .inl (cI, 1024, .inl fK1)), (k2, .inl (cI, 1024, .inl fK2))]) hP hD [1, 2, 3] [0] rfl rfl (by decide) (by decide) hk1 hFc hP1 hD1
  generalize H1 = H at hP hS ⊢
  have hP : va_P (dC, dI) vwCl [(oE, .inr (8, [.ref oC, .ref oK, .int reE, .int laE, .int suE, .int leE])), (oK, .inr (3, [.ref k1, .ref k2, .int lK])), (k1, .inl (cI, 1024, .inl fK1)), (k2, .inl (cI, 1024, .inl fK2))] H := hP
  have hD : va_D A [(oE, .inr (8, [.ref oC, .ref oK, .int reE, .int laE, .int suE, .int leE])), (oK, .inr (3, [.ref k1, .ref k2, .int lK])), (k1, .inl (cI, 1024, .inl fK1)), (k2, .inl (cI, 1024, .inl fK2))] := hD
  refine lv_iadd hx hb dX8_sumWith_16 ?_
  refine lv_topi (fun x_2 ex_2 => ?_)
  have tx_2 : x_2.toInt = suE.toInt + r_1.toInt := v_add ex_2 (by show -2147483648 ≤ suE.toInt + r_1.toInt; omega) (by show suE.toInt + r_1.toInt < 2147483648; omega)
  have hP9 := hP.sub (ws' := [(oE, .inr (8, [.ref oC, .ref oK, .int reE, .int laE, .int suE, .int leE])), (oK, .inr (3, [.ref k1, .ref k2, .int lK])), (k1, .inl (cI, 1024, .inl fK1)), (k2, .inl (cI, 1024, .inl fK2))]) [0, 1, 2, 3] rfl
  have hD9 := hD.sub (ws' := [(oE, .inr (8, [.ref oC, .ref oK, .int reE, .int laE, .int suE, .int leE])), (oK, .inr (3, [.ref k1, .ref k2, .int lK])), (k1, .inl (cI, 1024, .inl fK1)), (k2, .inl (cI, 1024, .inl fK2))]) [0, 1, 2, 3] (by decide) rfl
  rw [hQQ]
  exact W.iret (v := x_2) hx hb hr (fun t ht hW => ⟨⟨x_2, x_2, rfl, rfl, ⟨by rw [ht]; exact hP9, hD9, by show suE.toInt ≤ x_2.toInt ∧ x_2.toInt ≤ suE.toInt + 200; omega, by have q9 := hf1_1; omega⟩⟩, hS.F ht⟩) hS.2.2 dX8_sumWith_17

set_option maxHeartbeats 40000000 in
set_option maxRecDepth 100000 in
theorem f_X8_begin (l : Launch) (dC : Nat → ClassId) (dI : Nat → Nat → Nat) (cI cS : ClassId) (sz : Nat) (oE : Nat) (oC : Nat) (oK : Nat) (reE : Int32) (laE : Int32) (suE : Int32) (leE : Int32)  : Met l yX8_begin wsX8_begin ({ frames := 0, cells := 0, slots := 0, locals := 0 } : Room) (va_Pc [.ref oE] (fun U => U.heap.size = sz ∧ va_P (dC, dI) vwCl [(oE, .inr (8, [.ref oC, .ref oK, .int reE, .int laE, .int suE, .int leE]))] U.heap ∧ va_K (dC, dI) vwCl [(cI, .int), (cS, .short)] U ∧ va_D (fun _ => True) [(oE, .inr (8, [.ref oC, .ref oK, .int reE, .int laE, .int suE, .int leE]))])) (va_Qv (fun (_ : Unit) => True) (fun _ t => ∃ (reE' : Int32) (laE' : Int32) (suE' : Int32) (leE' : Int32), va_P (dC, dI) vwCl [(oE, .inr (8, [.ref oC, .ref oK, .int reE', .int laE', .int suE', .int leE']))] t.heap ∧ va_D (va_A [(oE, .inr (8, [.ref oC, .ref oK, .int reE, .int laE, .int suE, .int leE]))] sz) [(oE, .inr (8, [.ref oC, .ref oK, .int reE', .int laE', .int suE', .int leE']))] ∧ (reE' = 0 ∧ laE' = 32 ∧ suE' = 0 ∧ leE' = 0)) (va_A [(oE, .inr (8, [.ref oC, .ref oK, .int reE, .int laE, .int suE, .int leE]))] sz)) 0 0 (va_A [(oE, .inr (8, [.ref oC, .ref oK, .int reE, .int laE, .int suE, .int leE]))] sz) := by
  refine Met.ofW (cc := cX8_begin) (maxL := 1) (ret := none) (by decide) rfl ?_
  intro p e s m args below meth c s₁ B hml hv
  obtain ⟨rfl, hsz, hP, hK, hD0⟩ := hv
  have hx := B.exec
  have hb := B.bytes
  have hr := B.returns
  have hts := atoms_spec (ws := wsX8_begin) B.pre
  have hown : s.vm.findClass RX8 = some m.cls := findClass_of_methodNamed B.named
  have hlocks := B.notSynchronized
  have in_X8 : ∀ w ∈ wsX80, w ∈ wsX8_begin := fun _ h => List.mem_cons_of_mem _ (List.mem_append_right _ (h))
  subst hsz
  have hD := hD0.self (sz := s.heap.size)
  generalize hAe : va_A [(oE, .inr (8, [.ref oC, .ref oK, .int reE, .int laE, .int suE, .int leE]))] s.heap.size = A at hD ⊢
  have hA : ∀ q : Nat, s.heap.size ≤ q → A q := fun q h => by rw [← hAe]; exact Or.inr h
  have hS : va_S A s.heap s.heap [] := va_S.rf
  have hP : va_P (dC, dI) vwCl [(oE, .inr (8, [.ref oC, .ref oK, .int reE, .int laE, .int suE, .int leE]))] s.heap := hP
  have hl := lv_entry ([.ref oE]) (n := 1) (Nat.le_of_ble_eq_true rfl)
  rw [lg_entry_eq]
  generalize (lg_sl ([.ref oE]) ++ List.replicate (1 - (lg_sl ([.ref oE])).length) Slot.unset).toArray = ls at hl ⊢
  have hl : lv_has ls 1 [(0, .ref oE)] := hl
  obtain ⟨QQ, hQQ⟩ : ∃ QQ : Array Value → State → Outcome → State → Prop, QQ = va_Qv (fun (_ : Unit) => True) (fun _ t => ∃ (reE' : Int32) (laE' : Int32) (suE' : Int32) (leE' : Int32), va_P (dC, dI) vwCl [(oE, .inr (8, [.ref oC, .ref oK, .int reE', .int laE', .int suE', .int leE']))] t.heap ∧ va_D A [(oE, .inr (8, [.ref oC, .ref oK, .int reE', .int laE', .int suE', .int leE']))] ∧ (reE' = 0 ∧ laE' = 32 ∧ suE' = 0 ∧ leE' = 0)) A := ⟨_, rfl⟩
  rw [← hQQ]
  refine lv_aload_n hx hb dX8_begin_0 rfl (lv_at hl 0 rfl) ?_
  refine lv_iconst (v := 0) hx hb dX8_begin_1 (by decide) ?_
  refine va_put (D := (dC, dI)) (ci := 8) (v := .int 0) (ty := .int) (C := RX8) (T := TX8) (N := 6) hx hb hts in_X8 tyX8 tyX8_ok nmX8 hown hK hP hD hS 0 rfl rfl 2 (by decide) (hts (.fieldLink RX8 19 "TextMender$Reading" "reached" "I") (List.mem_of_getElem? (i := 1) rfl)) (fun _ h9 => h9) rfl (by decide +kernel) rfl rfl (Nat.le_of_ble_eq_true rfl) dX8_begin_2 (fun H locs hP hD hS => ?_)
  have hP : va_P (dC, dI) vwCl [(oE, .inr (8, [.ref oC, .ref oK, .int 0, .int laE, .int suE, .int leE]))] H := hP
  have hD : va_D A [(oE, .inr (8, [.ref oC, .ref oK, .int 0, .int laE, .int suE, .int leE]))] := hD
  refine lv_aload_n hx hb dX8_begin_5 rfl (lv_at hl 0 rfl) ?_
  refine lv_bipush (v := 32) hx hb dX8_begin_6 (by decide) ?_
  refine va_put (D := (dC, dI)) (ci := 8) (v := .int 32) (ty := .int) (C := RX8) (T := TX8) (N := 6) hx hb hts in_X8 tyX8 tyX8_ok nmX8 hown hK hP hD hS 0 rfl rfl 3 (by decide) (hts (.fieldLink RX8 23 "TextMender$Reading" "latest" "I") (List.mem_of_getElem? (i := 2) rfl)) (fun _ h9 => h9) rfl (by decide +kernel) rfl rfl (Nat.le_of_ble_eq_true rfl) dX8_begin_8 (fun H locs hP hD hS => ?_)
  have hP : va_P (dC, dI) vwCl [(oE, .inr (8, [.ref oC, .ref oK, .int 0, .int 32, .int suE, .int leE]))] H := hP
  have hD : va_D A [(oE, .inr (8, [.ref oC, .ref oK, .int 0, .int 32, .int suE, .int leE]))] := hD
  refine lv_aload_n hx hb dX8_begin_11 rfl (lv_at hl 0 rfl) ?_
  refine lv_iconst (v := 0) hx hb dX8_begin_12 (by decide) ?_
  refine va_put (D := (dC, dI)) (ci := 8) (v := .int 0) (ty := .int) (C := RX8) (T := TX8) (N := 6) hx hb hts in_X8 tyX8 tyX8_ok nmX8 hown hK hP hD hS 0 rfl rfl 4 (by decide) (hts (.fieldLink RX8 26 "TextMender$Reading" "sum" "I") (List.mem_of_getElem? (i := 3) rfl)) (fun _ h9 => h9) rfl (by decide +kernel) rfl rfl (Nat.le_of_ble_eq_true rfl) dX8_begin_13 (fun H locs hP hD hS => ?_)
  have hP : va_P (dC, dI) vwCl [(oE, .inr (8, [.ref oC, .ref oK, .int 0, .int 32, .int 0, .int leE]))] H := hP
  have hD : va_D A [(oE, .inr (8, [.ref oC, .ref oK, .int 0, .int 32, .int 0, .int leE]))] := hD
  refine lv_aload_n hx hb dX8_begin_16 rfl (lv_at hl 0 rfl) ?_
  refine lv_iconst (v := 0) hx hb dX8_begin_17 (by decide) ?_
  refine va_put (D := (dC, dI)) (ci := 8) (v := .int 0) (ty := .int) (C := RX8) (T := TX8) (N := 6) hx hb hts in_X8 tyX8 tyX8_ok nmX8 hown hK hP hD hS 0 rfl rfl 5 (by decide) (hts (.fieldLink RX8 29 "TextMender$Reading" "letters" "I") (List.mem_of_getElem? (i := 4) rfl)) (fun _ h9 => h9) rfl (by decide +kernel) rfl rfl (Nat.le_of_ble_eq_true rfl) dX8_begin_18 (fun H locs hP hD hS => ?_)
  have hP : va_P (dC, dI) vwCl [(oE, .inr (8, [.ref oC, .ref oK, .int 0, .int 32, .int 0, .int 0]))] H := hP
  have hD : va_D A [(oE, .inr (8, [.ref oC, .ref oK, .int 0, .int 32, .int 0, .int 0]))] := hD
  have hP9 := hP.sub (ws' := [(oE, .inr (8, [.ref oC, .ref oK, .int 0, .int 32, .int 0, .int 0]))]) [0] rfl
  have hD9 := hD.sub (ws' := [(oE, .inr (8, [.ref oC, .ref oK, .int 0, .int 32, .int 0, .int 0]))]) [0] (by decide) rfl
  rw [hQQ]
  exact W.vret hx hb hr (fun t ht hW => ⟨⟨(), rfl, trivial, ⟨0, 32, 0, 0, by rw [ht]; exact hP9, hD9, ⟨rfl, rfl, rfl, rfl⟩⟩⟩, hS.F ht⟩) hS.2.2 dX8_begin_21

set_option maxHeartbeats 40000000 in
set_option maxRecDepth 100000 in
theorem f_X8_takeAll (l : Launch) (dC : Nat → ClassId) (dI : Nat → Nat → Nat) (cI cS : ClassId) (sz : Nat) (oE : Nat) (oD : Nat) (oC : Nat) (oK : Nat) (reE : Int32) (laE : Int32) (suE : Int32) (leE : Int32) (reD : Int32) (laD : Int32) (suD : Int32) (leD : Int32)  : Met l yX8_takeAll wsX8_takeAll ({ frames := 0, cells := 0, slots := 0, locals := 0 } : Room) (va_Pc [.ref oE, .ref oD] (fun U => U.heap.size = sz ∧ va_P (dC, dI) vwCl [(oE, .inr (8, [.ref oC, .ref oK, .int reE, .int laE, .int suE, .int leE])), (oD, .inr (8, [.ref oC, .ref oK, .int reD, .int laD, .int suD, .int leD]))] U.heap ∧ va_K (dC, dI) vwCl [(cI, .int), (cS, .short)] U ∧ va_D (fun _ => True) [(oE, .inr (8, [.ref oC, .ref oK, .int reE, .int laE, .int suE, .int leE])), (oD, .inr (8, [.ref oC, .ref oK, .int reD, .int laD, .int suD, .int leD]))])) (va_Qv (fun (_ : Unit) => True) (fun _ t => ∃ (reE' : Int32) (laE' : Int32) (suE' : Int32) (leE' : Int32), va_P (dC, dI) vwCl [(oE, .inr (8, [.ref oC, .ref oK, .int reE', .int laE', .int suE', .int leE'])), (oD, .inr (8, [.ref oC, .ref oK, .int reD, .int laD, .int suD, .int leD]))] t.heap ∧ va_D (va_A [(oE, .inr (8, [.ref oC, .ref oK, .int reE, .int laE, .int suE, .int leE])), (oD, .inr (8, [.ref oC, .ref oK, .int reD, .int laD, .int suD, .int leD]))] sz) [(oE, .inr (8, [.ref oC, .ref oK, .int reE', .int laE', .int suE', .int leE'])), (oD, .inr (8, [.ref oC, .ref oK, .int reD, .int laD, .int suD, .int leD]))] ∧ (reE' = reD ∧ laE' = laD ∧ suE' = suD ∧ leE' = leD)) (va_A [(oE, .inr (8, [.ref oC, .ref oK, .int reE, .int laE, .int suE, .int leE])), (oD, .inr (8, [.ref oC, .ref oK, .int reD, .int laD, .int suD, .int leD]))] sz)) 0 0 (va_A [(oE, .inr (8, [.ref oC, .ref oK, .int reE, .int laE, .int suE, .int leE])), (oD, .inr (8, [.ref oC, .ref oK, .int reD, .int laD, .int suD, .int leD]))] sz) := by
  refine Met.ofW (cc := cX8_takeAll) (maxL := 2) (ret := none) (by decide) rfl ?_
  intro p e s m args below meth c s₁ B hml hv
  obtain ⟨rfl, hsz, hP, hK, hD0⟩ := hv
  have hx := B.exec
  have hb := B.bytes
  have hr := B.returns
  have hts := atoms_spec (ws := wsX8_takeAll) B.pre
  have hown : s.vm.findClass RX8 = some m.cls := findClass_of_methodNamed B.named
  have hlocks := B.notSynchronized
  have in_X8 : ∀ w ∈ wsX80, w ∈ wsX8_takeAll := fun _ h => List.mem_cons_of_mem _ (List.mem_append_right _ (h))
  subst hsz
  have hD := hD0.self (sz := s.heap.size)
  generalize hAe : va_A [(oE, .inr (8, [.ref oC, .ref oK, .int reE, .int laE, .int suE, .int leE])), (oD, .inr (8, [.ref oC, .ref oK, .int reD, .int laD, .int suD, .int leD]))] s.heap.size = A at hD ⊢
  have hA : ∀ q : Nat, s.heap.size ≤ q → A q := fun q h => by rw [← hAe]; exact Or.inr h
  have hS : va_S A s.heap s.heap [] := va_S.rf
  have hP : va_P (dC, dI) vwCl [(oE, .inr (8, [.ref oC, .ref oK, .int reE, .int laE, .int suE, .int leE])), (oD, .inr (8, [.ref oC, .ref oK, .int reD, .int laD, .int suD, .int leD]))] s.heap := hP
  have hl := lv_entry ([.ref oE, .ref oD]) (n := 2) (Nat.le_of_ble_eq_true rfl)
  rw [lg_entry_eq]
  generalize (lg_sl ([.ref oE, .ref oD]) ++ List.replicate (2 - (lg_sl ([.ref oE, .ref oD])).length) Slot.unset).toArray = ls at hl ⊢
  have hl : lv_has ls 2 [(0, .ref oE), (1, .ref oD)] := hl
  obtain ⟨QQ, hQQ⟩ : ∃ QQ : Array Value → State → Outcome → State → Prop, QQ = va_Qv (fun (_ : Unit) => True) (fun _ t => ∃ (reE' : Int32) (laE' : Int32) (suE' : Int32) (leE' : Int32), va_P (dC, dI) vwCl [(oE, .inr (8, [.ref oC, .ref oK, .int reE', .int laE', .int suE', .int leE'])), (oD, .inr (8, [.ref oC, .ref oK, .int reD, .int laD, .int suD, .int leD]))] t.heap ∧ va_D A [(oE, .inr (8, [.ref oC, .ref oK, .int reE', .int laE', .int suE', .int leE'])), (oD, .inr (8, [.ref oC, .ref oK, .int reD, .int laD, .int suD, .int leD]))] ∧ (reE' = reD ∧ laE' = laD ∧ suE' = suD ∧ leE' = leD)) A := ⟨_, rfl⟩
  rw [← hQQ]
  refine lv_aload_n hx hb dX8_takeAll_0 rfl (lv_at hl 0 rfl) ?_
  refine lv_aload_n hx hb dX8_takeAll_1 rfl (lv_at hl 1 rfl) ?_
  refine va_get (D := (dC, dI)) (ci := 8) (v := .int reD) (C := RX8) (T := TX8) (N := 6) hx hb hts in_X8 hown hK hP 1 rfl rfl 2 (by decide) (hts (.fieldLink RX8 19 "TextMender$Reading" "reached" "I") (List.mem_of_getElem? (i := 1) rfl)) (fun _ h9 => h9) rfl dX8_takeAll_2 ?_
  refine va_put (D := (dC, dI)) (ci := 8) (v := .int reD) (ty := .int) (C := RX8) (T := TX8) (N := 6) hx hb hts in_X8 tyX8 tyX8_ok nmX8 hown hK hP hD hS 0 rfl rfl 2 (by decide) (hts (.fieldLink RX8 19 "TextMender$Reading" "reached" "I") (List.mem_of_getElem? (i := 1) rfl)) (fun _ h9 => h9) rfl (by decide +kernel) rfl rfl (Nat.le_of_ble_eq_true rfl) dX8_takeAll_5 (fun H locs hP hD hS => ?_)
  have hP : va_P (dC, dI) vwCl [(oE, .inr (8, [.ref oC, .ref oK, .int reD, .int laE, .int suE, .int leE])), (oD, .inr (8, [.ref oC, .ref oK, .int reD, .int laD, .int suD, .int leD]))] H := hP
  have hD : va_D A [(oE, .inr (8, [.ref oC, .ref oK, .int reD, .int laE, .int suE, .int leE])), (oD, .inr (8, [.ref oC, .ref oK, .int reD, .int laD, .int suD, .int leD]))] := hD
  refine lv_aload_n hx hb dX8_takeAll_8 rfl (lv_at hl 0 rfl) ?_
  refine lv_aload_n hx hb dX8_takeAll_9 rfl (lv_at hl 1 rfl) ?_
  refine va_get (D := (dC, dI)) (ci := 8) (v := .int laD) (C := RX8) (T := TX8) (N := 6) hx hb hts in_X8 hown hK hP 1 rfl rfl 3 (by decide) (hts (.fieldLink RX8 23 "TextMender$Reading" "latest" "I") (List.mem_of_getElem? (i := 2) rfl)) (fun _ h9 => h9) rfl dX8_takeAll_10 ?_
  refine va_put (D := (dC, dI)) (ci := 8) (v := .int laD) (ty := .int) (C := RX8) (T := TX8) (N := 6) hx hb hts in_X8 tyX8 tyX8_ok nmX8 hown hK hP hD hS 0 rfl rfl 3 (by decide) (hts (.fieldLink RX8 23 "TextMender$Reading" "latest" "I") (List.mem_of_getElem? (i := 2) rfl)) (fun _ h9 => h9) rfl (by decide +kernel) rfl rfl (Nat.le_of_ble_eq_true rfl) dX8_takeAll_13 (fun H locs hP hD hS => ?_)
  have hP : va_P (dC, dI) vwCl [(oE, .inr (8, [.ref oC, .ref oK, .int reD, .int laD, .int suE, .int leE])), (oD, .inr (8, [.ref oC, .ref oK, .int reD, .int laD, .int suD, .int leD]))] H := hP
  have hD : va_D A [(oE, .inr (8, [.ref oC, .ref oK, .int reD, .int laD, .int suE, .int leE])), (oD, .inr (8, [.ref oC, .ref oK, .int reD, .int laD, .int suD, .int leD]))] := hD
  refine lv_aload_n hx hb dX8_takeAll_16 rfl (lv_at hl 0 rfl) ?_
  refine lv_aload_n hx hb dX8_takeAll_17 rfl (lv_at hl 1 rfl) ?_
  refine va_get (D := (dC, dI)) (ci := 8) (v := .int suD) (C := RX8) (T := TX8) (N := 6) hx hb hts in_X8 hown hK hP 1 rfl rfl 4 (by decide) (hts (.fieldLink RX8 26 "TextMender$Reading" "sum" "I") (List.mem_of_getElem? (i := 3) rfl)) (fun _ h9 => h9) rfl dX8_takeAll_18 ?_
  refine va_put (D := (dC, dI)) (ci := 8) (v := .int suD) (ty := .int) (C := RX8) (T := TX8) (N := 6) hx hb hts in_X8 tyX8 tyX8_ok nmX8 hown hK hP hD hS 0 rfl rfl 4 (by decide) (hts (.fieldLink RX8 26 "TextMender$Reading" "sum" "I") (List.mem_of_getElem? (i := 3) rfl)) (fun _ h9 => h9) rfl (by decide +kernel) rfl rfl (Nat.le_of_ble_eq_true rfl) dX8_takeAll_21 (fun H locs hP hD hS => ?_)
  have hP : va_P (dC, dI) vwCl [(oE, .inr (8, [.ref oC, .ref oK, .int reD, .int laD, .int suD, .int leE])), (oD, .inr (8, [.ref oC, .ref oK, .int reD, .int laD, .int suD, .int leD]))] H := hP
  have hD : va_D A [(oE, .inr (8, [.ref oC, .ref oK, .int reD, .int laD, .int suD, .int leE])), (oD, .inr (8, [.ref oC, .ref oK, .int reD, .int laD, .int suD, .int leD]))] := hD
  refine lv_aload_n hx hb dX8_takeAll_24 rfl (lv_at hl 0 rfl) ?_
  refine lv_aload_n hx hb dX8_takeAll_25 rfl (lv_at hl 1 rfl) ?_
  refine va_get (D := (dC, dI)) (ci := 8) (v := .int leD) (C := RX8) (T := TX8) (N := 6) hx hb hts in_X8 hown hK hP 1 rfl rfl 5 (by decide) (hts (.fieldLink RX8 29 "TextMender$Reading" "letters" "I") (List.mem_of_getElem? (i := 4) rfl)) (fun _ h9 => h9) rfl dX8_takeAll_26 ?_
  refine va_put (D := (dC, dI)) (ci := 8) (v := .int leD) (ty := .int) (C := RX8) (T := TX8) (N := 6) hx hb hts in_X8 tyX8 tyX8_ok nmX8 hown hK hP hD hS 0 rfl rfl 5 (by decide) (hts (.fieldLink RX8 29 "TextMender$Reading" "letters" "I") (List.mem_of_getElem? (i := 4) rfl)) (fun _ h9 => h9) rfl (by decide +kernel) rfl rfl (Nat.le_of_ble_eq_true rfl) dX8_takeAll_29 (fun H locs hP hD hS => ?_)
  have hP : va_P (dC, dI) vwCl [(oE, .inr (8, [.ref oC, .ref oK, .int reD, .int laD, .int suD, .int leD])), (oD, .inr (8, [.ref oC, .ref oK, .int reD, .int laD, .int suD, .int leD]))] H := hP
  have hD : va_D A [(oE, .inr (8, [.ref oC, .ref oK, .int reD, .int laD, .int suD, .int leD])), (oD, .inr (8, [.ref oC, .ref oK, .int reD, .int laD, .int suD, .int leD]))] := hD
  have hP9 := hP.sub (ws' := [(oE, .inr (8, [.ref oC, .ref oK, .int reD, .int laD, .int suD, .int leD])), (oD, .inr (8, [.ref oC, .ref oK, .int reD, .int laD, .int suD, .int leD]))]) [0, 1] rfl
  have hD9 := hD.sub (ws' := [(oE, .inr (8, [.ref oC, .ref oK, .int reD, .int laD, .int suD, .int leD])), (oD, .inr (8, [.ref oC, .ref oK, .int reD, .int laD, .int suD, .int leD]))]) [0, 1] (by decide) rfl
  rw [hQQ]
  exact W.vret hx hb hr (fun t ht hW => ⟨⟨(), rfl, trivial, ⟨reD, laD, suD, leD, by rw [ht]; exact hP9, hD9, ⟨rfl, rfl, rfl, rfl⟩⟩⟩, hS.F ht⟩) hS.2.2 dX8_takeAll_32

set_option maxHeartbeats 40000000 in
set_option maxRecDepth 100000 in
theorem f_X4_writtenIn (l : Launch) (dC : Nat → ClassId) (dI : Nat → Nat → Nat) (cI cS : ClassId) (sz : Nat) (oH : Nat) (oP : Nat) (h1 : Nat) (h2 : Nat) (lH : Int32) (fH1 : Nat → Int32) (h : Int32) (g_lH : 0 ≤ lH.toInt ∧ lH.toInt ≤ 6) (g_h : 0 ≤ h.toInt ∧ h.toInt ≤ 5) (hh : h.toInt < lH.toInt) : Met l yX4_writtenIn wsX4_writtenIn ({ frames := 0, cells := 0, slots := 0, locals := 0 } : Room) (va_Pc [.ref oH, .int h] (fun U => U.heap.size = sz ∧ va_P (dC, dI) vwCl [(oH, .inr (4, [.ref oP, .ref h1, .ref h2, .int lH])), (h1, .inl (cI, 6, .inl fH1))] U.heap ∧ va_K (dC, dI) vwCl [(cI, .int), (cS, .short)] U ∧ va_D (fun _ => True) [(oH, .inr (4, [.ref oP, .ref h1, .ref h2, .int lH])), (h1, .inl (cI, 6, .inl fH1))])) (va_Qi (fun (r : Int32) (u : Int32) => r = u) (fun (r : Int32) t => va_P (dC, dI) vwCl [(oH, .inr (4, [.ref oP, .ref h1, .ref h2, .int lH])), (h1, .inl (cI, 6, .inl fH1))] t.heap ∧ va_D (va_A [(oH, .inr (4, [.ref oP, .ref h1, .ref h2, .int lH])), (h1, .inl (cI, 6, .inl fH1))] sz) [(oH, .inr (4, [.ref oP, .ref h1, .ref h2, .int lH])), (h1, .inl (cI, 6, .inl fH1))] ∧ (r = fH1 h.toNatClampNeg)) (va_A [(oH, .inr (4, [.ref oP, .ref h1, .ref h2, .int lH])), (h1, .inl (cI, 6, .inl fH1))] sz)) 0 0 (va_A [(oH, .inr (4, [.ref oP, .ref h1, .ref h2, .int lH])), (h1, .inl (cI, 6, .inl fH1))] sz) := by
  refine Met.ofW (cc := cX4_writtenIn) (maxL := 2) (ret := (some .int)) (by decide) rfl ?_
  intro p e s m args below meth c s₁ B hml hv
  obtain ⟨rfl, hsz, hP, hK, hD0⟩ := hv
  have hx := B.exec
  have hb := B.bytes
  have hr := B.returns
  have hts := atoms_spec (ws := wsX4_writtenIn) B.pre
  have hown : s.vm.findClass RX4 = some m.cls := findClass_of_methodNamed B.named
  have hlocks := B.notSynchronized
  have in_X4 : ∀ w ∈ wsX40, w ∈ wsX4_writtenIn := fun _ h => List.mem_cons_of_mem _ (List.mem_append_right _ (h))
  subst hsz
  have hD := hD0.self (sz := s.heap.size)
  generalize hAe : va_A [(oH, .inr (4, [.ref oP, .ref h1, .ref h2, .int lH])), (h1, .inl (cI, 6, .inl fH1))] s.heap.size = A at hD ⊢
  have hA : ∀ q : Nat, s.heap.size ≤ q → A q := fun q h => by rw [← hAe]; exact Or.inr h
  have hS : va_S A s.heap s.heap [] := va_S.rf
  have hP : va_P (dC, dI) vwCl [(oH, .inr (4, [.ref oP, .ref h1, .ref h2, .int lH])), (h1, .inl (cI, 6, .inl fH1))] s.heap := hP
  have hl := lv_entry ([.ref oH, .int h]) (n := 2) (Nat.le_of_ble_eq_true rfl)
  rw [lg_entry_eq]
  generalize (lg_sl ([.ref oH, .int h]) ++ List.replicate (2 - (lg_sl ([.ref oH, .int h])).length) Slot.unset).toArray = ls at hl ⊢
  have hl : lv_has ls 2 [(0, .ref oH), (1, .int h)] := hl
  obtain ⟨QQ, hQQ⟩ : ∃ QQ : Array Value → State → Outcome → State → Prop, QQ = va_Qi (fun (r : Int32) (u : Int32) => r = u) (fun (r : Int32) t => va_P (dC, dI) vwCl [(oH, .inr (4, [.ref oP, .ref h1, .ref h2, .int lH])), (h1, .inl (cI, 6, .inl fH1))] t.heap ∧ va_D A [(oH, .inr (4, [.ref oP, .ref h1, .ref h2, .int lH])), (h1, .inl (cI, 6, .inl fH1))] ∧ (r = fH1 h.toNatClampNeg)) A := ⟨_, rfl⟩
  rw [← hQQ]
  refine lv_iload_n hx hb dX4_writtenIn_0 rfl (lv_at hl 1 rfl) ?_
  refine lv_if_lt (tgt := 21) hx hb dX4_writtenIn_1 (by decide) (fun c_1 => by exfalso; have tc_1 : h.toInt < 0 := v_lt c_1; omega) (fun c_1 => ?_)
  have tc_1 : 0 ≤ h.toInt := v_nlt c_1
  refine lv_iload_n hx hb dX4_writtenIn_4 rfl (lv_at hl 1 rfl) ?_
  refine lv_aload_n hx hb dX4_writtenIn_5 rfl (lv_at hl 0 rfl) ?_
  refine va_get (D := (dC, dI)) (ci := 4) (v := .int lH) (C := RX4) (T := TX4) (N := 4) hx hb hts in_X4 hown hK hP 0 rfl rfl 3 (by decide) (hts (.fieldLink RX4 22 "TextMender$Harms" "length" "I") (List.mem_of_getElem? (i := 1) rfl)) (fun _ h9 => h9) rfl dX4_writtenIn_6 ?_
  refine lv_icmp_ge (tgt := 21) hx hb dX4_writtenIn_9 (by decide) (fun c_2 => by exfalso; have tc_2 : lH.toInt ≤ h.toInt := v_le c_2; omega) (fun c_2 => ?_)
  have tc_2 : h.toInt < lH.toInt := v_nle c_2
  refine lv_aload_n hx hb dX4_writtenIn_12 rfl (lv_at hl 0 rfl) ?_
  refine va_get (D := (dC, dI)) (ci := 4) (v := .ref h1) (C := RX4) (T := TX4) (N := 4) hx hb hts in_X4 hown hK hP 0 rfl rfl 1 (by decide) (hts (.fieldLink RX4 9 "TextMender$Harms" "writtenIn" "[I") (List.mem_of_getElem? (i := 2) rfl)) (fun _ h9 => h9) rfl dX4_writtenIn_13 ?_
  refine lv_iload_n hx hb dX4_writtenIn_16 rfl (lv_at hl 1 rfl) ?_
  refine va_iald hx hb hK hP 1 0 rfl rfl (v_in (by omega)) dX4_writtenIn_17 ?_
  refine lv_topi (fun x_3 ex_3 => ?_)
  refine lv_goto (tgt := 22) hx hb dX4_writtenIn_18 (by decide) ?_
  have hP9 := hP.sub (ws' := [(oH, .inr (4, [.ref oP, .ref h1, .ref h2, .int lH])), (h1, .inl (cI, 6, .inl fH1))]) [0, 1] rfl
  have hD9 := hD.sub (ws' := [(oH, .inr (4, [.ref oP, .ref h1, .ref h2, .int lH])), (h1, .inl (cI, 6, .inl fH1))]) [0, 1] (by decide) rfl
  rw [hQQ]
  exact W.iret (v := x_3) hx hb hr (fun t ht hW => ⟨⟨x_3, x_3, rfl, rfl, ⟨by rw [ht]; exact hP9, hD9, ex_3⟩⟩, hS.F ht⟩) hS.2.2 dX4_writtenIn_22

set_option maxHeartbeats 40000000 in
set_option maxRecDepth 100000 in
theorem f_X4_readIn (l : Launch) (dC : Nat → ClassId) (dI : Nat → Nat → Nat) (cI cS : ClassId) (sz : Nat) (oH : Nat) (oP : Nat) (h1 : Nat) (h2 : Nat) (lH : Int32) (fH2 : Nat → Int32) (h : Int32) (g_lH : 0 ≤ lH.toInt ∧ lH.toInt ≤ 6) (g_h : 0 ≤ h.toInt ∧ h.toInt ≤ 5) (hh : h.toInt < lH.toInt) : Met l yX4_readIn wsX4_readIn ({ frames := 0, cells := 0, slots := 0, locals := 0 } : Room) (va_Pc [.ref oH, .int h] (fun U => U.heap.size = sz ∧ va_P (dC, dI) vwCl [(oH, .inr (4, [.ref oP, .ref h1, .ref h2, .int lH])), (h2, .inl (cI, 6, .inl fH2))] U.heap ∧ va_K (dC, dI) vwCl [(cI, .int), (cS, .short)] U ∧ va_D (fun _ => True) [(oH, .inr (4, [.ref oP, .ref h1, .ref h2, .int lH])), (h2, .inl (cI, 6, .inl fH2))])) (va_Qi (fun (r : Int32) (u : Int32) => r = u) (fun (r : Int32) t => va_P (dC, dI) vwCl [(oH, .inr (4, [.ref oP, .ref h1, .ref h2, .int lH])), (h2, .inl (cI, 6, .inl fH2))] t.heap ∧ va_D (va_A [(oH, .inr (4, [.ref oP, .ref h1, .ref h2, .int lH])), (h2, .inl (cI, 6, .inl fH2))] sz) [(oH, .inr (4, [.ref oP, .ref h1, .ref h2, .int lH])), (h2, .inl (cI, 6, .inl fH2))] ∧ (r = fH2 h.toNatClampNeg)) (va_A [(oH, .inr (4, [.ref oP, .ref h1, .ref h2, .int lH])), (h2, .inl (cI, 6, .inl fH2))] sz)) 0 0 (va_A [(oH, .inr (4, [.ref oP, .ref h1, .ref h2, .int lH])), (h2, .inl (cI, 6, .inl fH2))] sz) := by
  refine Met.ofW (cc := cX4_readIn) (maxL := 2) (ret := (some .int)) (by decide) rfl ?_
  intro p e s m args below meth c s₁ B hml hv
  obtain ⟨rfl, hsz, hP, hK, hD0⟩ := hv
  have hx := B.exec
  have hb := B.bytes
  have hr := B.returns
  have hts := atoms_spec (ws := wsX4_readIn) B.pre
  have hown : s.vm.findClass RX4 = some m.cls := findClass_of_methodNamed B.named
  have hlocks := B.notSynchronized
  have in_X4 : ∀ w ∈ wsX40, w ∈ wsX4_readIn := fun _ h => List.mem_cons_of_mem _ (List.mem_append_right _ (h))
  subst hsz
  have hD := hD0.self (sz := s.heap.size)
  generalize hAe : va_A [(oH, .inr (4, [.ref oP, .ref h1, .ref h2, .int lH])), (h2, .inl (cI, 6, .inl fH2))] s.heap.size = A at hD ⊢
  have hA : ∀ q : Nat, s.heap.size ≤ q → A q := fun q h => by rw [← hAe]; exact Or.inr h
  have hS : va_S A s.heap s.heap [] := va_S.rf
  have hP : va_P (dC, dI) vwCl [(oH, .inr (4, [.ref oP, .ref h1, .ref h2, .int lH])), (h2, .inl (cI, 6, .inl fH2))] s.heap := hP
  have hl := lv_entry ([.ref oH, .int h]) (n := 2) (Nat.le_of_ble_eq_true rfl)
  rw [lg_entry_eq]
  generalize (lg_sl ([.ref oH, .int h]) ++ List.replicate (2 - (lg_sl ([.ref oH, .int h])).length) Slot.unset).toArray = ls at hl ⊢
  have hl : lv_has ls 2 [(0, .ref oH), (1, .int h)] := hl
  obtain ⟨QQ, hQQ⟩ : ∃ QQ : Array Value → State → Outcome → State → Prop, QQ = va_Qi (fun (r : Int32) (u : Int32) => r = u) (fun (r : Int32) t => va_P (dC, dI) vwCl [(oH, .inr (4, [.ref oP, .ref h1, .ref h2, .int lH])), (h2, .inl (cI, 6, .inl fH2))] t.heap ∧ va_D A [(oH, .inr (4, [.ref oP, .ref h1, .ref h2, .int lH])), (h2, .inl (cI, 6, .inl fH2))] ∧ (r = fH2 h.toNatClampNeg)) A := ⟨_, rfl⟩
  rw [← hQQ]
  refine lv_iload_n hx hb dX4_readIn_0 rfl (lv_at hl 1 rfl) ?_
  refine lv_if_lt (tgt := 21) hx hb dX4_readIn_1 (by decide) (fun c_1 => by exfalso; have tc_1 : h.toInt < 0 := v_lt c_1; omega) (fun c_1 => ?_)
  have tc_1 : 0 ≤ h.toInt := v_nlt c_1
  refine lv_iload_n hx hb dX4_readIn_4 rfl (lv_at hl 1 rfl) ?_
  refine lv_aload_n hx hb dX4_readIn_5 rfl (lv_at hl 0 rfl) ?_
  refine va_get (D := (dC, dI)) (ci := 4) (v := .int lH) (C := RX4) (T := TX4) (N := 4) hx hb hts in_X4 hown hK hP 0 rfl rfl 3 (by decide) (hts (.fieldLink RX4 22 "TextMender$Harms" "length" "I") (List.mem_of_getElem? (i := 1) rfl)) (fun _ h9 => h9) rfl dX4_readIn_6 ?_
  refine lv_icmp_ge (tgt := 21) hx hb dX4_readIn_9 (by decide) (fun c_2 => by exfalso; have tc_2 : lH.toInt ≤ h.toInt := v_le c_2; omega) (fun c_2 => ?_)
  have tc_2 : h.toInt < lH.toInt := v_nle c_2
  refine lv_aload_n hx hb dX4_readIn_12 rfl (lv_at hl 0 rfl) ?_
  refine va_get (D := (dC, dI)) (ci := 4) (v := .ref h2) (C := RX4) (T := TX4) (N := 4) hx hb hts in_X4 hown hK hP 0 rfl rfl 2 (by decide) (hts (.fieldLink RX4 15 "TextMender$Harms" "readIn" "[I") (List.mem_of_getElem? (i := 2) rfl)) (fun _ h9 => h9) rfl dX4_readIn_13 ?_
  refine lv_iload_n hx hb dX4_readIn_16 rfl (lv_at hl 1 rfl) ?_
  refine va_iald hx hb hK hP 1 0 rfl rfl (v_in (by omega)) dX4_readIn_17 ?_
  refine lv_topi (fun x_3 ex_3 => ?_)
  refine lv_goto (tgt := 22) hx hb dX4_readIn_18 (by decide) ?_
  have hP9 := hP.sub (ws' := [(oH, .inr (4, [.ref oP, .ref h1, .ref h2, .int lH])), (h2, .inl (cI, 6, .inl fH2))]) [0, 1] rfl
  have hD9 := hD.sub (ws' := [(oH, .inr (4, [.ref oP, .ref h1, .ref h2, .int lH])), (h2, .inl (cI, 6, .inl fH2))]) [0, 1] (by decide) rfl
  rw [hQQ]
  exact W.iret (v := x_3) hx hb hr (fun t ht hW => ⟨⟨x_3, x_3, rfl, rfl, ⟨by rw [ht]; exact hP9, hD9, ex_3⟩⟩, hS.F ht⟩) hS.2.2 dX4_readIn_22

set_option maxHeartbeats 40000000 in
set_option maxRecDepth 100000 in
theorem f_X6_isBetter (l : Launch) (dC : Nat → ClassId) (dI : Nat → Nat → Nat) (cI cS : ClassId) (sz : Nat) (oQ : Nat) (oC : Nat) (oH : Nat) (oK : Nat) (oE : Nat) (nq : Nat) (np : Nat) (nv : Nat) (q1 : Nat) (q2 : Nat) (q3 : Nat) (q4 : Nat) (pr : Int32) (fQ1 : Nat → Int32) (fQ2 : Nat → Int32) (fQ3 : Nat → Int32) (fr : Int32) (sm : Int32) (sp : Int32) (en : Int32) (g_fr : 0 ≤ fr.toInt ∧ fr.toInt ≤ 60) : Met l yX6_isBetter wsX6_isBetter ({ frames := 0, cells := 0, slots := 0, locals := 0 } : Room) (va_Pc [.ref oQ, .int fr, .int sm, .int sp, .int en] (fun U => U.heap.size = sz ∧ va_P (dC, dI) vwCl [(oQ, .inr (6, [.ref oC, .ref oH, .ref oK, .ref oE, .ref nq, .ref np, .ref nv, .ref q1, .ref q2, .ref q3, .ref q4, .int pr])), (q1, .inl (cI, 61, .inl fQ1)), (q2, .inl (cI, 61, .inl fQ2)), (q3, .inl (cI, 61, .inl fQ3))] U.heap ∧ va_K (dC, dI) vwCl [(cI, .int), (cS, .short)] U ∧ va_D (fun _ => True) [(oQ, .inr (6, [.ref oC, .ref oH, .ref oK, .ref oE, .ref nq, .ref np, .ref nv, .ref q1, .ref q2, .ref q3, .ref q4, .int pr])), (q1, .inl (cI, 61, .inl fQ1)), (q2, .inl (cI, 61, .inl fQ2)), (q3, .inl (cI, 61, .inl fQ3))])) (va_Qi (fun (r : Int32) (u : Int32) => r = u) (fun (r : Int32) t => va_P (dC, dI) vwCl [(oQ, .inr (6, [.ref oC, .ref oH, .ref oK, .ref oE, .ref nq, .ref np, .ref nv, .ref q1, .ref q2, .ref q3, .ref q4, .int pr])), (q1, .inl (cI, 61, .inl fQ1)), (q2, .inl (cI, 61, .inl fQ2)), (q3, .inl (cI, 61, .inl fQ3))] t.heap ∧ va_D (va_A [(oQ, .inr (6, [.ref oC, .ref oH, .ref oK, .ref oE, .ref nq, .ref np, .ref nv, .ref q1, .ref q2, .ref q3, .ref q4, .int pr])), (q1, .inl (cI, 61, .inl fQ1)), (q2, .inl (cI, 61, .inl fQ2)), (q3, .inl (cI, 61, .inl fQ3))] sz) [(oQ, .inr (6, [.ref oC, .ref oH, .ref oK, .ref oE, .ref nq, .ref np, .ref nv, .ref q1, .ref q2, .ref q3, .ref q4, .int pr])), (q1, .inl (cI, 61, .inl fQ1)), (q2, .inl (cI, 61, .inl fQ2)), (q3, .inl (cI, 61, .inl fQ3))] ∧ (0 ≤ r.toInt ∧ r.toInt ≤ 1) ∧ (F_ib r sm.toInt sp.toInt en.toInt (fQ1 fr.toNatClampNeg).toInt (fQ2 fr.toNatClampNeg).toInt (fQ3 fr.toNatClampNeg).toInt)) (va_A [(oQ, .inr (6, [.ref oC, .ref oH, .ref oK, .ref oE, .ref nq, .ref np, .ref nv, .ref q1, .ref q2, .ref q3, .ref q4, .int pr])), (q1, .inl (cI, 61, .inl fQ1)), (q2, .inl (cI, 61, .inl fQ2)), (q3, .inl (cI, 61, .inl fQ3))] sz)) 0 0 (va_A [(oQ, .inr (6, [.ref oC, .ref oH, .ref oK, .ref oE, .ref nq, .ref np, .ref nv, .ref q1, .ref q2, .ref q3, .ref q4, .int pr])), (q1, .inl (cI, 61, .inl fQ1)), (q2, .inl (cI, 61, .inl fQ2)), (q3, .inl (cI, 61, .inl fQ3))] sz) := by
  refine Met.ofW (cc := cX6_isBetter) (maxL := 5) (ret := (some .boolean)) (by decide) rfl ?_
  intro p e s m args below meth c s₁ B hml hv
  obtain ⟨rfl, hsz, hP, hK, hD0⟩ := hv
  have hx := B.exec
  have hb := B.bytes
  have hr := B.returns
  have hts := atoms_spec (ws := wsX6_isBetter) B.pre
  have hown : s.vm.findClass RX6 = some m.cls := findClass_of_methodNamed B.named
  have hlocks := B.notSynchronized
  have in_X6 : ∀ w ∈ wsX60, w ∈ wsX6_isBetter := fun _ h => List.mem_cons_of_mem _ (List.mem_append_right _ (h))
  subst hsz
  have hD := hD0.self (sz := s.heap.size)
  generalize hAe : va_A [(oQ, .inr (6, [.ref oC, .ref oH, .ref oK, .ref oE, .ref nq, .ref np, .ref nv, .ref q1, .ref q2, .ref q3, .ref q4, .int pr])), (q1, .inl (cI, 61, .inl fQ1)), (q2, .inl (cI, 61, .inl fQ2)), (q3, .inl (cI, 61, .inl fQ3))] s.heap.size = A at hD ⊢
  have hA : ∀ q : Nat, s.heap.size ≤ q → A q := fun q h => by rw [← hAe]; exact Or.inr h
  have hS : va_S A s.heap s.heap [] := va_S.rf
  have hP : va_P (dC, dI) vwCl [(oQ, .inr (6, [.ref oC, .ref oH, .ref oK, .ref oE, .ref nq, .ref np, .ref nv, .ref q1, .ref q2, .ref q3, .ref q4, .int pr])), (q1, .inl (cI, 61, .inl fQ1)), (q2, .inl (cI, 61, .inl fQ2)), (q3, .inl (cI, 61, .inl fQ3))] s.heap := hP
  have hl := lv_entry ([.ref oQ, .int fr, .int sm, .int sp, .int en]) (n := 5) (Nat.le_of_ble_eq_true rfl)
  rw [lg_entry_eq]
  generalize (lg_sl ([.ref oQ, .int fr, .int sm, .int sp, .int en]) ++ List.replicate (5 - (lg_sl ([.ref oQ, .int fr, .int sm, .int sp, .int en])).length) Slot.unset).toArray = ls at hl ⊢
  have hl : lv_has ls 5 [(0, .ref oQ), (1, .int fr), (2, .int sm), (3, .int sp), (4, .int en)] := hl
  obtain ⟨QQ, hQQ⟩ : ∃ QQ : Array Value → State → Outcome → State → Prop, QQ = va_Qi (fun (r : Int32) (u : Int32) => r = u) (fun (r : Int32) t => va_P (dC, dI) vwCl [(oQ, .inr (6, [.ref oC, .ref oH, .ref oK, .ref oE, .ref nq, .ref np, .ref nv, .ref q1, .ref q2, .ref q3, .ref q4, .int pr])), (q1, .inl (cI, 61, .inl fQ1)), (q2, .inl (cI, 61, .inl fQ2)), (q3, .inl (cI, 61, .inl fQ3))] t.heap ∧ va_D A [(oQ, .inr (6, [.ref oC, .ref oH, .ref oK, .ref oE, .ref nq, .ref np, .ref nv, .ref q1, .ref q2, .ref q3, .ref q4, .int pr])), (q1, .inl (cI, 61, .inl fQ1)), (q2, .inl (cI, 61, .inl fQ2)), (q3, .inl (cI, 61, .inl fQ3))] ∧ (0 ≤ r.toInt ∧ r.toInt ≤ 1) ∧ (F_ib r sm.toInt sp.toInt en.toInt (fQ1 fr.toNatClampNeg).toInt (fQ2 fr.toNatClampNeg).toInt (fQ3 fr.toNatClampNeg).toInt)) A := ⟨_, rfl⟩
  rw [← hQQ]
  refine lv_iload_n hx hb dX6_isBetter_0 rfl (lv_at hl 2 rfl) ?_
  refine lv_aload_n hx hb dX6_isBetter_1 rfl (lv_at hl 0 rfl) ?_
  refine va_get (D := (dC, dI)) (ci := 6) (v := .ref q1) (C := RX6) (T := TX6) (N := 12) hx hb hts in_X6 hown hK hP 0 rfl rfl 7 (by decide) (hts (.fieldLink RX6 26 "TextMender$Parting" "leastCost" "[I") (List.mem_of_getElem? (i := 1) rfl)) (fun _ h9 => h9) rfl dX6_isBetter_2 ?_
  refine lv_iload_n hx hb dX6_isBetter_5 rfl (lv_at hl 1 rfl) ?_
  refine va_iald hx hb hK hP 1 0 rfl rfl (v_in (by omega)) dX6_isBetter_6 ?_
  refine lv_topi (fun x_1 ex_1 => ?_)
  refine lv_icmp_eq (tgt := 26) hx hb dX6_isBetter_7 (by decide) (fun c_2 => ?_) (fun c_2 => ?_)
  · have tc_2 : sm.toInt = x_1.toInt := v_eq c_2
    have rw2_0 := v_rng sm
    have rw2_1 := v_rng x_1
    refine lv_iload_n hx hb dX6_isBetter_26 rfl (lv_at hl 3 rfl) ?_
    refine lv_aload_n hx hb dX6_isBetter_27 rfl (lv_at hl 0 rfl) ?_
    refine va_get (D := (dC, dI)) (ci := 6) (v := .ref q2) (C := RX6) (T := TX6) (N := 12) hx hb hts in_X6 hown hK hP 0 rfl rfl 8 (by decide) (hts (.fieldLink RX6 30 "TextMender$Parting" "spansFrom" "[I") (List.mem_of_getElem? (i := 2) rfl)) (fun _ h9 => h9) rfl dX6_isBetter_28 ?_
    refine lv_iload_n hx hb dX6_isBetter_31 rfl (lv_at hl 1 rfl) ?_
    refine va_iald hx hb hK hP 2 0 rfl rfl (v_in (by omega)) dX6_isBetter_32 ?_
    refine lv_topi (fun x_3 ex_3 => ?_)
    refine lv_icmp_eq (tgt := 52) hx hb dX6_isBetter_33 (by decide) (fun c_4 => ?_) (fun c_4 => ?_)
    · have tc_4 : sp.toInt = x_3.toInt := v_eq c_4
      have rw4_0 := v_rng sp
      have rw4_1 := v_rng x_3
      refine lv_iload hx hb dX6_isBetter_52 (lv_at hl 4 rfl) ?_
      refine lv_aload_n hx hb dX6_isBetter_54 rfl (lv_at hl 0 rfl) ?_
      refine va_get (D := (dC, dI)) (ci := 6) (v := .ref q3) (C := RX6) (T := TX6) (N := 12) hx hb hts in_X6 hown hK hP 0 rfl rfl 9 (by decide) (hts (.fieldLink RX6 33 "TextMender$Parting" "endOf" "[I") (List.mem_of_getElem? (i := 3) rfl)) (fun _ h9 => h9) rfl dX6_isBetter_55 ?_
      refine lv_iload_n hx hb dX6_isBetter_58 rfl (lv_at hl 1 rfl) ?_
      refine va_iald hx hb hK hP 3 0 rfl rfl (v_in (by omega)) dX6_isBetter_59 ?_
      refine lv_topi (fun x_5 ex_5 => ?_)
      refine lv_icmp_le (tgt := 67) hx hb dX6_isBetter_60 (by decide) (fun c_6 => ?_) (fun c_6 => ?_)
      · have tc_6 : en.toInt ≤ x_5.toInt := v_le c_6
        have rw6_0 := v_rng en
        have rw6_1 := v_rng x_5
        refine lv_iconst (v := 0) hx hb dX6_isBetter_67 (by decide) ?_
        have hP9 := hP.sub (ws' := [(oQ, .inr (6, [.ref oC, .ref oH, .ref oK, .ref oE, .ref nq, .ref np, .ref nv, .ref q1, .ref q2, .ref q3, .ref q4, .int pr])), (q1, .inl (cI, 61, .inl fQ1)), (q2, .inl (cI, 61, .inl fQ2)), (q3, .inl (cI, 61, .inl fQ3))]) [0, 1, 2, 3] rfl
        have hD9 := hD.sub (ws' := [(oQ, .inr (6, [.ref oC, .ref oH, .ref oK, .ref oE, .ref nq, .ref np, .ref nv, .ref q1, .ref q2, .ref q3, .ref q4, .int pr])), (q1, .inl (cI, 61, .inl fQ1)), (q2, .inl (cI, 61, .inl fQ2)), (q3, .inl (cI, 61, .inl fQ3))]) [0, 1, 2, 3] (by decide) rfl
        rw [hQQ]
        exact W.zret (v := 0) (ty := .boolean) hx hb hr (rfl) (fun t ht hW => ⟨⟨0, 0, rfl, rfl, ⟨by rw [ht]; exact hP9, hD9, by decide, by unfold F_ib lxl; rw [← ex_1, ← ex_3, ← ex_5]; first | exact Or.inl ⟨rfl, by omega⟩ | exact Or.inr ⟨rfl, by omega⟩⟩⟩, hS.F ht⟩) hS.2.2 dX6_isBetter_68
      · have tc_6 : x_5.toInt < en.toInt := v_nle c_6
        have rw6_0 := v_rng en
        have rw6_1 := v_rng x_5
        refine lv_iconst (v := 1) hx hb dX6_isBetter_63 (by decide) ?_
        refine lv_goto (tgt := 68) hx hb dX6_isBetter_64 (by decide) ?_
        have hP9 := hP.sub (ws' := [(oQ, .inr (6, [.ref oC, .ref oH, .ref oK, .ref oE, .ref nq, .ref np, .ref nv, .ref q1, .ref q2, .ref q3, .ref q4, .int pr])), (q1, .inl (cI, 61, .inl fQ1)), (q2, .inl (cI, 61, .inl fQ2)), (q3, .inl (cI, 61, .inl fQ3))]) [0, 1, 2, 3] rfl
        have hD9 := hD.sub (ws' := [(oQ, .inr (6, [.ref oC, .ref oH, .ref oK, .ref oE, .ref nq, .ref np, .ref nv, .ref q1, .ref q2, .ref q3, .ref q4, .int pr])), (q1, .inl (cI, 61, .inl fQ1)), (q2, .inl (cI, 61, .inl fQ2)), (q3, .inl (cI, 61, .inl fQ3))]) [0, 1, 2, 3] (by decide) rfl
        rw [hQQ]
        exact W.zret (v := 1) (ty := .boolean) hx hb hr (rfl) (fun t ht hW => ⟨⟨1, 1, rfl, rfl, ⟨by rw [ht]; exact hP9, hD9, by decide, by unfold F_ib lxl; rw [← ex_1, ← ex_3, ← ex_5]; first | exact Or.inl ⟨rfl, by omega⟩ | exact Or.inr ⟨rfl, by omega⟩⟩⟩, hS.F ht⟩) hS.2.2 dX6_isBetter_68
    · have tc_4 : ¬ sp.toInt = x_3.toInt := v_ne c_4
      have rw4_0 := v_rng sp
      have rw4_1 := v_rng x_3
      refine lv_iload_n hx hb dX6_isBetter_36 rfl (lv_at hl 3 rfl) ?_
      refine lv_aload_n hx hb dX6_isBetter_37 rfl (lv_at hl 0 rfl) ?_
      refine va_get (D := (dC, dI)) (ci := 6) (v := .ref q2) (C := RX6) (T := TX6) (N := 12) hx hb hts in_X6 hown hK hP 0 rfl rfl 8 (by decide) (hts (.fieldLink RX6 30 "TextMender$Parting" "spansFrom" "[I") (List.mem_of_getElem? (i := 2) rfl)) (fun _ h9 => h9) rfl dX6_isBetter_38 ?_
      refine lv_iload_n hx hb dX6_isBetter_41 rfl (lv_at hl 1 rfl) ?_
      refine va_iald hx hb hK hP 2 0 rfl rfl (v_in (by omega)) dX6_isBetter_42 ?_
      refine k_i (y := x_3) ex_3.symm ?_
      refine lv_icmp_ge (tgt := 50) hx hb dX6_isBetter_43 (by decide) (fun c_7 => ?_) (fun c_7 => ?_)
      · have tc_7 : x_3.toInt ≤ sp.toInt := v_le c_7
        refine lv_iconst (v := 0) hx hb dX6_isBetter_50 (by decide) ?_
        have hP9 := hP.sub (ws' := [(oQ, .inr (6, [.ref oC, .ref oH, .ref oK, .ref oE, .ref nq, .ref np, .ref nv, .ref q1, .ref q2, .ref q3, .ref q4, .int pr])), (q1, .inl (cI, 61, .inl fQ1)), (q2, .inl (cI, 61, .inl fQ2)), (q3, .inl (cI, 61, .inl fQ3))]) [0, 1, 2, 3] rfl
        have hD9 := hD.sub (ws' := [(oQ, .inr (6, [.ref oC, .ref oH, .ref oK, .ref oE, .ref nq, .ref np, .ref nv, .ref q1, .ref q2, .ref q3, .ref q4, .int pr])), (q1, .inl (cI, 61, .inl fQ1)), (q2, .inl (cI, 61, .inl fQ2)), (q3, .inl (cI, 61, .inl fQ3))]) [0, 1, 2, 3] (by decide) rfl
        rw [hQQ]
        exact W.zret (v := 0) (ty := .boolean) hx hb hr (rfl) (fun t ht hW => ⟨⟨0, 0, rfl, rfl, ⟨by rw [ht]; exact hP9, hD9, by decide, by unfold F_ib lxl; rw [← ex_1, ← ex_3]; first | exact Or.inl ⟨rfl, by omega⟩ | exact Or.inr ⟨rfl, by omega⟩⟩⟩, hS.F ht⟩) hS.2.2 dX6_isBetter_51
      · have tc_7 : sp.toInt < x_3.toInt := v_nle c_7
        refine lv_iconst (v := 1) hx hb dX6_isBetter_46 (by decide) ?_
        refine lv_goto (tgt := 51) hx hb dX6_isBetter_47 (by decide) ?_
        have hP9 := hP.sub (ws' := [(oQ, .inr (6, [.ref oC, .ref oH, .ref oK, .ref oE, .ref nq, .ref np, .ref nv, .ref q1, .ref q2, .ref q3, .ref q4, .int pr])), (q1, .inl (cI, 61, .inl fQ1)), (q2, .inl (cI, 61, .inl fQ2)), (q3, .inl (cI, 61, .inl fQ3))]) [0, 1, 2, 3] rfl
        have hD9 := hD.sub (ws' := [(oQ, .inr (6, [.ref oC, .ref oH, .ref oK, .ref oE, .ref nq, .ref np, .ref nv, .ref q1, .ref q2, .ref q3, .ref q4, .int pr])), (q1, .inl (cI, 61, .inl fQ1)), (q2, .inl (cI, 61, .inl fQ2)), (q3, .inl (cI, 61, .inl fQ3))]) [0, 1, 2, 3] (by decide) rfl
        rw [hQQ]
        exact W.zret (v := 1) (ty := .boolean) hx hb hr (rfl) (fun t ht hW => ⟨⟨1, 1, rfl, rfl, ⟨by rw [ht]; exact hP9, hD9, by decide, by unfold F_ib lxl; rw [← ex_1, ← ex_3]; first | exact Or.inl ⟨rfl, by omega⟩ | exact Or.inr ⟨rfl, by omega⟩⟩⟩, hS.F ht⟩) hS.2.2 dX6_isBetter_51
  · have tc_2 : ¬ sm.toInt = x_1.toInt := v_ne c_2
    have rw2_0 := v_rng sm
    have rw2_1 := v_rng x_1
    refine lv_iload_n hx hb dX6_isBetter_10 rfl (lv_at hl 2 rfl) ?_
    refine lv_aload_n hx hb dX6_isBetter_11 rfl (lv_at hl 0 rfl) ?_
    refine va_get (D := (dC, dI)) (ci := 6) (v := .ref q1) (C := RX6) (T := TX6) (N := 12) hx hb hts in_X6 hown hK hP 0 rfl rfl 7 (by decide) (hts (.fieldLink RX6 26 "TextMender$Parting" "leastCost" "[I") (List.mem_of_getElem? (i := 1) rfl)) (fun _ h9 => h9) rfl dX6_isBetter_12 ?_
    refine lv_iload_n hx hb dX6_isBetter_15 rfl (lv_at hl 1 rfl) ?_
    refine va_iald hx hb hK hP 1 0 rfl rfl (v_in (by omega)) dX6_isBetter_16 ?_
    refine k_i (y := x_1) ex_1.symm ?_
    refine lv_icmp_ge (tgt := 24) hx hb dX6_isBetter_17 (by decide) (fun c_8 => ?_) (fun c_8 => ?_)
    · have tc_8 : x_1.toInt ≤ sm.toInt := v_le c_8
      refine lv_iconst (v := 0) hx hb dX6_isBetter_24 (by decide) ?_
      have hP9 := hP.sub (ws' := [(oQ, .inr (6, [.ref oC, .ref oH, .ref oK, .ref oE, .ref nq, .ref np, .ref nv, .ref q1, .ref q2, .ref q3, .ref q4, .int pr])), (q1, .inl (cI, 61, .inl fQ1)), (q2, .inl (cI, 61, .inl fQ2)), (q3, .inl (cI, 61, .inl fQ3))]) [0, 1, 2, 3] rfl
      have hD9 := hD.sub (ws' := [(oQ, .inr (6, [.ref oC, .ref oH, .ref oK, .ref oE, .ref nq, .ref np, .ref nv, .ref q1, .ref q2, .ref q3, .ref q4, .int pr])), (q1, .inl (cI, 61, .inl fQ1)), (q2, .inl (cI, 61, .inl fQ2)), (q3, .inl (cI, 61, .inl fQ3))]) [0, 1, 2, 3] (by decide) rfl
      rw [hQQ]
      exact W.zret (v := 0) (ty := .boolean) hx hb hr (rfl) (fun t ht hW => ⟨⟨0, 0, rfl, rfl, ⟨by rw [ht]; exact hP9, hD9, by decide, by unfold F_ib lxl; rw [← ex_1]; first | exact Or.inl ⟨rfl, by omega⟩ | exact Or.inr ⟨rfl, by omega⟩⟩⟩, hS.F ht⟩) hS.2.2 dX6_isBetter_25
    · have tc_8 : sm.toInt < x_1.toInt := v_nle c_8
      refine lv_iconst (v := 1) hx hb dX6_isBetter_20 (by decide) ?_
      refine lv_goto (tgt := 25) hx hb dX6_isBetter_21 (by decide) ?_
      have hP9 := hP.sub (ws' := [(oQ, .inr (6, [.ref oC, .ref oH, .ref oK, .ref oE, .ref nq, .ref np, .ref nv, .ref q1, .ref q2, .ref q3, .ref q4, .int pr])), (q1, .inl (cI, 61, .inl fQ1)), (q2, .inl (cI, 61, .inl fQ2)), (q3, .inl (cI, 61, .inl fQ3))]) [0, 1, 2, 3] rfl
      have hD9 := hD.sub (ws' := [(oQ, .inr (6, [.ref oC, .ref oH, .ref oK, .ref oE, .ref nq, .ref np, .ref nv, .ref q1, .ref q2, .ref q3, .ref q4, .int pr])), (q1, .inl (cI, 61, .inl fQ1)), (q2, .inl (cI, 61, .inl fQ2)), (q3, .inl (cI, 61, .inl fQ3))]) [0, 1, 2, 3] (by decide) rfl
      rw [hQQ]
      exact W.zret (v := 1) (ty := .boolean) hx hb hr (rfl) (fun t ht hW => ⟨⟨1, 1, rfl, rfl, ⟨by rw [ht]; exact hP9, hD9, by decide, by unfold F_ib lxl; rw [← ex_1]; first | exact Or.inl ⟨rfl, by omega⟩ | exact Or.inr ⟨rfl, by omega⟩⟩⟩, hS.F ht⟩) hS.2.2 dX6_isBetter_25

theorem ib_1 {r : Int32} {sm sp en c s e : Int} (h : F_ib r sm sp en c s e) (h1 : ¬ r.toInt = 0) : lxl sm sp en c s e := h.elim (fun z => z.2) (fun z => absurd z.1 h1)
theorem ib_0 {r : Int32} {sm sp en c s e : Int} (h : F_ib r sm sp en c s e) (h0 : r.toInt = 0) : ¬ lxl sm sp en c s e := h.elim (fun z => by have := z.1; omega) (fun z => z.2)

set_option maxHeartbeats 40000000 in
set_option maxRecDepth 100000 in
theorem f_X6_offer (l : Launch) (dC : Nat → ClassId) (dI : Nat → Nat → Nat) (cI cS : ClassId) (sz : Nat) (oQ : Nat) (oC : Nat) (oH : Nat) (oK : Nat) (oE : Nat) (nq : Nat) (np : Nat) (nv : Nat) (q1 : Nat) (q2 : Nat) (q3 : Nat) (q4 : Nat) (pr : Int32) (fQ1 : Nat → Int32) (fQ2 : Nat → Int32) (fQ3 : Nat → Int32) (fQ4 : Nat → Int32) (fr : Int32) (en : Int32) (h : Int32) (cs : Int32) (g_pr : 0 ≤ pr.toInt ∧ pr.toInt ≤ 1000) (g_fr : 0 ≤ fr.toInt ∧ fr.toInt ≤ 59) (g_en : 1 ≤ en.toInt ∧ en.toInt ≤ 60) (g_cs : 0 ≤ cs.toInt ∧ cs.toInt ≤ 62000) (hfe : fr.toInt < en.toInt) (he1 : 0 ≤ (fQ1 en.toNatClampNeg).toInt ∧ (fQ1 en.toNatClampNeg).toInt ≤ 5000000) (he2 : 0 ≤ (fQ2 en.toNatClampNeg).toInt ∧ (fQ2 en.toNatClampNeg).toInt ≤ 60) : Met l yX6_offer wsX6_offer ({ frames := 1, cells := 0, slots := 0, locals := 24 } : Room) (va_Pc [.ref oQ, .int fr, .int en, .int h, .int cs] (fun U => U.heap.size = sz ∧ va_P (dC, dI) vwCl [(oQ, .inr (6, [.ref oC, .ref oH, .ref oK, .ref oE, .ref nq, .ref np, .ref nv, .ref q1, .ref q2, .ref q3, .ref q4, .int pr])), (q1, .inl (cI, 61, .inl fQ1)), (q2, .inl (cI, 61, .inl fQ2)), (q3, .inl (cI, 61, .inl fQ3)), (q4, .inl (cI, 61, .inl fQ4))] U.heap ∧ va_K (dC, dI) vwCl [(cI, .int), (cS, .short)] U ∧ va_D (fun _ => True) [(oQ, .inr (6, [.ref oC, .ref oH, .ref oK, .ref oE, .ref nq, .ref np, .ref nv, .ref q1, .ref q2, .ref q3, .ref q4, .int pr])), (q1, .inl (cI, 61, .inl fQ1)), (q2, .inl (cI, 61, .inl fQ2)), (q3, .inl (cI, 61, .inl fQ3)), (q4, .inl (cI, 61, .inl fQ4))])) (va_Qv (fun (_ : Unit) => True) (fun _ t => ∃ (fQ1' : Nat → Int32) (fQ2' : Nat → Int32) (fQ3' : Nat → Int32) (fQ4' : Nat → Int32), va_P (dC, dI) vwCl [(oQ, .inr (6, [.ref oC, .ref oH, .ref oK, .ref oE, .ref nq, .ref np, .ref nv, .ref q1, .ref q2, .ref q3, .ref q4, .int pr])), (q1, .inl (cI, 61, .inl fQ1')), (q2, .inl (cI, 61, .inl fQ2')), (q3, .inl (cI, 61, .inl fQ3')), (q4, .inl (cI, 61, .inl fQ4'))] t.heap ∧ va_D (va_A [(oQ, .inr (6, [.ref oC, .ref oH, .ref oK, .ref oE, .ref nq, .ref np, .ref nv, .ref q1, .ref q2, .ref q3, .ref q4, .int pr])), (q1, .inl (cI, 61, .inl fQ1)), (q2, .inl (cI, 61, .inl fQ2)), (q3, .inl (cI, 61, .inl fQ3)), (q4, .inl (cI, 61, .inl fQ4))] sz) [(oQ, .inr (6, [.ref oC, .ref oH, .ref oK, .ref oE, .ref nq, .ref np, .ref nv, .ref q1, .ref q2, .ref q3, .ref q4, .int pr])), (q1, .inl (cI, 61, .inl fQ1')), (q2, .inl (cI, 61, .inl fQ2')), (q3, .inl (cI, 61, .inl fQ3')), (q4, .inl (cI, 61, .inl fQ4'))] ∧ (F_of pr fr en h cs fQ1 fQ1' fQ2 fQ2' fQ3 fQ3' fQ4 fQ4')) (va_A [(oQ, .inr (6, [.ref oC, .ref oH, .ref oK, .ref oE, .ref nq, .ref np, .ref nv, .ref q1, .ref q2, .ref q3, .ref q4, .int pr])), (q1, .inl (cI, 61, .inl fQ1)), (q2, .inl (cI, 61, .inl fQ2)), (q3, .inl (cI, 61, .inl fQ3)), (q4, .inl (cI, 61, .inl fQ4))] sz)) 0 0 (va_A [(oQ, .inr (6, [.ref oC, .ref oH, .ref oK, .ref oE, .ref nq, .ref np, .ref nv, .ref q1, .ref q2, .ref q3, .ref q4, .int pr])), (q1, .inl (cI, 61, .inl fQ1)), (q2, .inl (cI, 61, .inl fQ2)), (q3, .inl (cI, 61, .inl fQ3)), (q4, .inl (cI, 61, .inl fQ4))] sz) := by
  refine Met.ofW (cc := cX6_offer) (maxL := 7) (ret := none) (by decide) rfl ?_
  intro p e s m args below meth c s₁ B hml hv
  obtain ⟨rfl, hsz, hP, hK, hD0⟩ := hv
  have hx := B.exec
  have hb := B.bytes
  have hr := B.returns
  have hts := atoms_spec (ws := wsX6_offer) B.pre
  have hown : s.vm.findClass RX6 = some m.cls := findClass_of_methodNamed B.named
  have hlocks := B.notSynchronized
  have in_X6 : ∀ w ∈ wsX60, w ∈ wsX6_offer := fun _ h => List.mem_cons_of_mem _ (List.mem_append_right _ (h))
  subst hsz
  have hD := hD0.self (sz := s.heap.size)
  generalize hAe : va_A [(oQ, .inr (6, [.ref oC, .ref oH, .ref oK, .ref oE, .ref nq, .ref np, .ref nv, .ref q1, .ref q2, .ref q3, .ref q4, .int pr])), (q1, .inl (cI, 61, .inl fQ1)), (q2, .inl (cI, 61, .inl fQ2)), (q3, .inl (cI, 61, .inl fQ3)), (q4, .inl (cI, 61, .inl fQ4))] s.heap.size = A at hD ⊢
  have hA : ∀ q : Nat, s.heap.size ≤ q → A q := fun q h => by rw [← hAe]; exact Or.inr h
  have hS : va_S A s.heap s.heap [] := va_S.rf
  have hP : va_P (dC, dI) vwCl [(oQ, .inr (6, [.ref oC, .ref oH, .ref oK, .ref oE, .ref nq, .ref np, .ref nv, .ref q1, .ref q2, .ref q3, .ref q4, .int pr])), (q1, .inl (cI, 61, .inl fQ1)), (q2, .inl (cI, 61, .inl fQ2)), (q3, .inl (cI, 61, .inl fQ3)), (q4, .inl (cI, 61, .inl fQ4))] s.heap := hP
  have hl := lv_entry ([.ref oQ, .int fr, .int en, .int h, .int cs]) (n := 7) (Nat.le_of_ble_eq_true rfl)
  rw [lg_entry_eq]
  generalize (lg_sl ([.ref oQ, .int fr, .int en, .int h, .int cs]) ++ List.replicate (7 - (lg_sl ([.ref oQ, .int fr, .int en, .int h, .int cs])).length) Slot.unset).toArray = ls at hl ⊢
  have hl : lv_has ls 7 [(0, .ref oQ), (1, .int fr), (2, .int en), (3, .int h), (4, .int cs)] := hl
  obtain ⟨QQ, hQQ⟩ : ∃ QQ : Array Value → State → Outcome → State → Prop, QQ = va_Qv (fun (_ : Unit) => True) (fun _ t => ∃ (fQ1' : Nat → Int32) (fQ2' : Nat → Int32) (fQ3' : Nat → Int32) (fQ4' : Nat → Int32), va_P (dC, dI) vwCl [(oQ, .inr (6, [.ref oC, .ref oH, .ref oK, .ref oE, .ref nq, .ref np, .ref nv, .ref q1, .ref q2, .ref q3, .ref q4, .int pr])), (q1, .inl (cI, 61, .inl fQ1')), (q2, .inl (cI, 61, .inl fQ2')), (q3, .inl (cI, 61, .inl fQ3')), (q4, .inl (cI, 61, .inl fQ4'))] t.heap ∧ va_D A [(oQ, .inr (6, [.ref oC, .ref oH, .ref oK, .ref oE, .ref nq, .ref np, .ref nv, .ref q1, .ref q2, .ref q3, .ref q4, .int pr])), (q1, .inl (cI, 61, .inl fQ1')), (q2, .inl (cI, 61, .inl fQ2')), (q3, .inl (cI, 61, .inl fQ3')), (q4, .inl (cI, 61, .inl fQ4'))] ∧ (F_of pr fr en h cs fQ1 fQ1' fQ2 fQ2' fQ3 fQ3' fQ4 fQ4')) A := ⟨_, rfl⟩
  rw [← hQQ]
  refine lv_iload_n hx hb dX6_offer_0 rfl (lv_at hl 1 rfl) ?_
  refine lv_if_lt (tgt := 15) hx hb dX6_offer_1 (by decide) (fun c_1 => by exfalso; have tc_1 : fr.toInt < 0 := v_lt c_1; omega) (fun c_1 => ?_)
  have tc_1 : 0 ≤ fr.toInt := v_nlt c_1
  refine lv_iload_n hx hb dX6_offer_4 rfl (lv_at hl 2 rfl) ?_
  refine lv_iload_n hx hb dX6_offer_5 rfl (lv_at hl 1 rfl) ?_
  refine lv_icmp_le (tgt := 15) hx hb dX6_offer_6 (by decide) (fun c_2 => by exfalso; have tc_2 : en.toInt ≤ fr.toInt := v_le c_2; omega) (fun c_2 => ?_)
  have tc_2 : fr.toInt < en.toInt := v_nle c_2
  refine lv_iload_n hx hb dX6_offer_9 rfl (lv_at hl 2 rfl) ?_
  refine lv_bipush (v := 60) hx hb dX6_offer_10 (by decide) ?_
  refine lv_icmp_le (tgt := 16) hx hb dX6_offer_12 (by decide) (fun c_3 => ?_) (fun c_3 => by exfalso; have tc_3 : 60 < en.toInt := v_nle c_3; omega)
  have tc_3 : en.toInt ≤ 60 := v_le c_3
  refine lv_iload hx hb dX6_offer_16 (lv_at hl 4 rfl) ?_
  refine lv_aload_n hx hb dX6_offer_18 rfl (lv_at hl 0 rfl) ?_
  refine va_get (D := (dC, dI)) (ci := 6) (v := .ref q1) (C := RX6) (T := TX6) (N := 12) hx hb hts in_X6 hown hK hP 0 rfl rfl 7 (by decide) (hts (.fieldLink RX6 26 "TextMender$Parting" "leastCost" "[I") (List.mem_of_getElem? (i := 1) rfl)) (fun _ h9 => h9) rfl dX6_offer_19 ?_
  refine lv_iload_n hx hb dX6_offer_22 rfl (lv_at hl 2 rfl) ?_
  refine va_iald hx hb hK hP 1 0 rfl rfl (v_in (by omega)) dX6_offer_23 ?_
  refine lv_topi (fun x_4 ex_4 => ?_)
  have ho_x_4 : 0 ≤ x_4.toInt ∧ x_4.toInt ≤ 5000000 := by rw [ex_4]; exact he1
  refine lv_iadd hx hb dX6_offer_24 ?_
  refine lv_topi (fun x_5 ex_5 => ?_)
  have tx_5 : x_5.toInt = cs.toInt + x_4.toInt := v_add ex_5 (by show -2147483648 ≤ cs.toInt + x_4.toInt; omega) (by show cs.toInt + x_4.toInt < 2147483648; omega)
  refine lv_aload_n hx hb dX6_offer_25 rfl (lv_at hl 0 rfl) ?_
  refine va_get (D := (dC, dI)) (ci := 6) (v := .ref q2) (C := RX6) (T := TX6) (N := 12) hx hb hts in_X6 hown hK hP 0 rfl rfl 8 (by decide) (hts (.fieldLink RX6 30 "TextMender$Parting" "spansFrom" "[I") (List.mem_of_getElem? (i := 2) rfl)) (fun _ h9 => h9) rfl dX6_offer_26 ?_
  refine lv_iload_n hx hb dX6_offer_29 rfl (lv_at hl 2 rfl) ?_
  refine va_iald hx hb hK hP 2 0 rfl rfl (v_in (by omega)) dX6_offer_30 ?_
  refine lv_topi (fun x_6 ex_6 => ?_)
  have ho_x_6 : 0 ≤ x_6.toInt ∧ x_6.toInt ≤ 60 := by rw [ex_6]; exact he2
  refine lv_if_le (tgt := 41) hx hb dX6_offer_31 (by decide) (fun c_7 => ?_) (fun c_7 => ?_)
  · have tc_7 : x_6.toInt ≤ 0 := v_le c_7
    refine lv_iconst (v := 0) hx hb dX6_offer_41 (by decide) ?_
    refine lv_iadd hx hb dX6_offer_42 ?_
    refine lv_topi (fun x_8 ex_8 => ?_)
    have tx_8 : x_8.toInt = x_5.toInt + 0 := v_add ex_8 (by show -2147483648 ≤ x_5.toInt + 0; omega) (by show x_5.toInt + 0 < 2147483648; omega)
    refine lv_istore (lv' := [(5, .int x_8), (0, .ref oQ), (1, .int fr), (2, .int en), (3, .int h), (4, .int cs)]) hx hb dX6_offer_43 hl (by decide) rfl (fun ls hl => ?_)
    refine lv_iconst (v := 1) hx hb dX6_offer_45 (by decide) ?_
    refine lv_aload_n hx hb dX6_offer_46 rfl (lv_at hl 1 rfl) ?_
    refine va_get (D := (dC, dI)) (ci := 6) (v := .ref q2) (C := RX6) (T := TX6) (N := 12) hx hb hts in_X6 hown hK hP 0 rfl rfl 8 (by decide) (hts (.fieldLink RX6 30 "TextMender$Parting" "spansFrom" "[I") (List.mem_of_getElem? (i := 2) rfl)) (fun _ h9 => h9) rfl dX6_offer_47 ?_
    refine lv_iload_n hx hb dX6_offer_50 rfl (lv_at hl 3 rfl) ?_
    refine va_iald hx hb hK hP 2 0 rfl rfl (v_in (by omega)) dX6_offer_51 ?_
    refine k_i (y := x_6) ex_6.symm ?_
    refine lv_iadd hx hb dX6_offer_52 ?_
    refine lv_topi (fun x_9 ex_9 => ?_)
    have tx_9 : x_9.toInt = 1 + x_6.toInt := v_add ex_9 (by show -2147483648 ≤ 1 + x_6.toInt; omega) (by show 1 + x_6.toInt < 2147483648; omega)
    refine lv_istore (lv' := [(6, .int x_9), (5, .int x_8), (0, .ref oQ), (1, .int fr), (2, .int en), (3, .int h), (4, .int cs)]) hx hb dX6_offer_53 hl (by decide) rfl (fun ls hl => ?_)
    refine lv_aload_n hx hb dX6_offer_55 rfl (lv_at hl 2 rfl) ?_
    refine va_get (D := (dC, dI)) (ci := 6) (v := .ref q1) (C := RX6) (T := TX6) (N := 12) hx hb hts in_X6 hown hK hP 0 rfl rfl 7 (by decide) (hts (.fieldLink RX6 26 "TextMender$Parting" "leastCost" "[I") (List.mem_of_getElem? (i := 1) rfl)) (fun _ h9 => h9) rfl dX6_offer_56 ?_
    refine lv_iload_n hx hb dX6_offer_59 rfl (lv_at hl 3 rfl) ?_
    refine va_iald hx hb hK hP 1 0 rfl rfl (v_in (by omega)) dX6_offer_60 ?_
    refine lv_topi (fun x_10 ex_10 => ?_)
    refine lv_iconst (v := (-1)) hx hb dX6_offer_61 (by decide) ?_
    refine lv_icmp_eq (tgt := 78) hx hb dX6_offer_62 (by decide) (fun c_11 => ?_) (fun c_11 => ?_)
    · have tc_11 : x_10.toInt = (-1) := v_eq c_11
      refine lv_aload_n hx hb dX6_offer_78 rfl (lv_at hl 2 rfl) ?_
      refine va_get (D := (dC, dI)) (ci := 6) (v := .ref q1) (C := RX6) (T := TX6) (N := 12) hx hb hts in_X6 hown hK hP 0 rfl rfl 7 (by decide) (hts (.fieldLink RX6 26 "TextMender$Parting" "leastCost" "[I") (List.mem_of_getElem? (i := 1) rfl)) (fun _ h9 => h9) rfl dX6_offer_79 ?_
      refine lv_iload_n hx hb dX6_offer_82 rfl (lv_at hl 3 rfl) ?_
      refine lv_iload hx hb dX6_offer_83 (lv_at hl 1 rfl) ?_
      refine va_iast hx hb hK hP hD hS 1 0 rfl rfl (v_in (by omega)) dX6_offer_85 (fun H locs hP hD hS => ?_)
      have hP : va_P (dC, dI) vwCl [(oQ, .inr (6, [.ref oC, .ref oH, .ref oK, .ref oE, .ref nq, .ref np, .ref nv, .ref q1, .ref q2, .ref q3, .ref q4, .int pr])), (q1, .inl (cI, 61, .inl (upd fQ1 (fr : Int32).toNatClampNeg x_8))), (q2, .inl (cI, 61, .inl fQ2)), (q3, .inl (cI, 61, .inl fQ3)), (q4, .inl (cI, 61, .inl fQ4))] H := hP
      have hD : va_D A [(oQ, .inr (6, [.ref oC, .ref oH, .ref oK, .ref oE, .ref nq, .ref np, .ref nv, .ref q1, .ref q2, .ref q3, .ref q4, .int pr])), (q1, .inl (cI, 61, .inl (upd fQ1 (fr : Int32).toNatClampNeg x_8))), (q2, .inl (cI, 61, .inl fQ2)), (q3, .inl (cI, 61, .inl fQ3)), (q4, .inl (cI, 61, .inl fQ4))] := hD
      obtain ⟨f_12, ef_12⟩ : ∃ g : Nat → Int32, g = upd fQ1 (fr : Int32).toNatClampNeg x_8 := ⟨_, rfl⟩
      rw [← ef_12] at hP hD
      refine lv_aload_n hx hb dX6_offer_86 rfl (lv_at hl 2 rfl) ?_
      refine va_get (D := (dC, dI)) (ci := 6) (v := .ref q2) (C := RX6) (T := TX6) (N := 12) hx hb hts in_X6 hown hK hP 0 rfl rfl 8 (by decide) (hts (.fieldLink RX6 30 "TextMender$Parting" "spansFrom" "[I") (List.mem_of_getElem? (i := 2) rfl)) (fun _ h9 => h9) rfl dX6_offer_87 ?_
      refine lv_iload_n hx hb dX6_offer_90 rfl (lv_at hl 3 rfl) ?_
      refine lv_iload hx hb dX6_offer_91 (lv_at hl 0 rfl) ?_
      refine va_iast hx hb hK hP hD hS 2 0 rfl rfl (v_in (by omega)) dX6_offer_93 (fun H locs hP hD hS => ?_)
      have hP : va_P (dC, dI) vwCl [(oQ, .inr (6, [.ref oC, .ref oH, .ref oK, .ref oE, .ref nq, .ref np, .ref nv, .ref q1, .ref q2, .ref q3, .ref q4, .int pr])), (q1, .inl (cI, 61, .inl f_12)), (q2, .inl (cI, 61, .inl (upd fQ2 (fr : Int32).toNatClampNeg x_9))), (q3, .inl (cI, 61, .inl fQ3)), (q4, .inl (cI, 61, .inl fQ4))] H := hP
      have hD : va_D A [(oQ, .inr (6, [.ref oC, .ref oH, .ref oK, .ref oE, .ref nq, .ref np, .ref nv, .ref q1, .ref q2, .ref q3, .ref q4, .int pr])), (q1, .inl (cI, 61, .inl f_12)), (q2, .inl (cI, 61, .inl (upd fQ2 (fr : Int32).toNatClampNeg x_9))), (q3, .inl (cI, 61, .inl fQ3)), (q4, .inl (cI, 61, .inl fQ4))] := hD
      obtain ⟨f_13, ef_13⟩ : ∃ g : Nat → Int32, g = upd fQ2 (fr : Int32).toNatClampNeg x_9 := ⟨_, rfl⟩
      rw [← ef_13] at hP hD
      refine lv_aload_n hx hb dX6_offer_94 rfl (lv_at hl 2 rfl) ?_
      refine va_get (D := (dC, dI)) (ci := 6) (v := .ref q3) (C := RX6) (T := TX6) (N := 12) hx hb hts in_X6 hown hK hP 0 rfl rfl 9 (by decide) (hts (.fieldLink RX6 33 "TextMender$Parting" "endOf" "[I") (List.mem_of_getElem? (i := 4) rfl)) (fun _ h9 => h9) rfl dX6_offer_95 ?_
      refine lv_iload_n hx hb dX6_offer_98 rfl (lv_at hl 3 rfl) ?_
      refine lv_iload_n hx hb dX6_offer_99 rfl (lv_at hl 4 rfl) ?_
      refine va_iast hx hb hK hP hD hS 3 0 rfl rfl (v_in (by omega)) dX6_offer_100 (fun H locs hP hD hS => ?_)
      have hP : va_P (dC, dI) vwCl [(oQ, .inr (6, [.ref oC, .ref oH, .ref oK, .ref oE, .ref nq, .ref np, .ref nv, .ref q1, .ref q2, .ref q3, .ref q4, .int pr])), (q1, .inl (cI, 61, .inl f_12)), (q2, .inl (cI, 61, .inl f_13)), (q3, .inl (cI, 61, .inl (upd fQ3 (fr : Int32).toNatClampNeg en))), (q4, .inl (cI, 61, .inl fQ4))] H := hP
      have hD : va_D A [(oQ, .inr (6, [.ref oC, .ref oH, .ref oK, .ref oE, .ref nq, .ref np, .ref nv, .ref q1, .ref q2, .ref q3, .ref q4, .int pr])), (q1, .inl (cI, 61, .inl f_12)), (q2, .inl (cI, 61, .inl f_13)), (q3, .inl (cI, 61, .inl (upd fQ3 (fr : Int32).toNatClampNeg en))), (q4, .inl (cI, 61, .inl fQ4))] := hD
      obtain ⟨f_14, ef_14⟩ : ∃ g : Nat → Int32, g = upd fQ3 (fr : Int32).toNatClampNeg en := ⟨_, rfl⟩
      rw [← ef_14] at hP hD
      refine lv_aload_n hx hb dX6_offer_101 rfl (lv_at hl 2 rfl) ?_
      refine va_get (D := (dC, dI)) (ci := 6) (v := .ref q4) (C := RX6) (T := TX6) (N := 12) hx hb hts in_X6 hown hK hP 0 rfl rfl 10 (by decide) (hts (.fieldLink RX6 36 "TextMender$Parting" "harmOf" "[I") (List.mem_of_getElem? (i := 5) rfl)) (fun _ h9 => h9) rfl dX6_offer_102 ?_
      refine lv_iload_n hx hb dX6_offer_105 rfl (lv_at hl 3 rfl) ?_
      refine lv_iload_n hx hb dX6_offer_106 rfl (lv_at hl 5 rfl) ?_
      refine va_iast hx hb hK hP hD hS 4 0 rfl rfl (v_in (by omega)) dX6_offer_107 (fun H locs hP hD hS => ?_)
      have hP : va_P (dC, dI) vwCl [(oQ, .inr (6, [.ref oC, .ref oH, .ref oK, .ref oE, .ref nq, .ref np, .ref nv, .ref q1, .ref q2, .ref q3, .ref q4, .int pr])), (q1, .inl (cI, 61, .inl f_12)), (q2, .inl (cI, 61, .inl f_13)), (q3, .inl (cI, 61, .inl f_14)), (q4, .inl (cI, 61, .inl (upd fQ4 (fr : Int32).toNatClampNeg h)))] H := hP
      have hD : va_D A [(oQ, .inr (6, [.ref oC, .ref oH, .ref oK, .ref oE, .ref nq, .ref np, .ref nv, .ref q1, .ref q2, .ref q3, .ref q4, .int pr])), (q1, .inl (cI, 61, .inl f_12)), (q2, .inl (cI, 61, .inl f_13)), (q3, .inl (cI, 61, .inl f_14)), (q4, .inl (cI, 61, .inl (upd fQ4 (fr : Int32).toNatClampNeg h)))] := hD
      obtain ⟨f_15, ef_15⟩ : ∃ g : Nat → Int32, g = upd fQ4 (fr : Int32).toNatClampNeg h := ⟨_, rfl⟩
      rw [← ef_15] at hP hD
      have hP9 := hP.sub (ws' := [(oQ, .inr (6, [.ref oC, .ref oH, .ref oK, .ref oE, .ref nq, .ref np, .ref nv, .ref q1, .ref q2, .ref q3, .ref q4, .int pr])), (q1, .inl (cI, 61, .inl f_12)), (q2, .inl (cI, 61, .inl f_13)), (q3, .inl (cI, 61, .inl f_14)), (q4, .inl (cI, 61, .inl f_15))]) [0, 1, 2, 3, 4] rfl
      have hD9 := hD.sub (ws' := [(oQ, .inr (6, [.ref oC, .ref oH, .ref oK, .ref oE, .ref nq, .ref np, .ref nv, .ref q1, .ref q2, .ref q3, .ref q4, .int pr])), (q1, .inl (cI, 61, .inl f_12)), (q2, .inl (cI, 61, .inl f_13)), (q3, .inl (cI, 61, .inl f_14)), (q4, .inl (cI, 61, .inl f_15))]) [0, 1, 2, 3, 4] (by decide) rfl
      rw [hQQ]
      exact W.vret hx hb hr (fun t ht hW => ⟨⟨(), rfl, trivial, ⟨f_12, f_13, f_14, f_15, by rw [ht]; exact hP9, hD9, ⟨x_8, x_9, by rw [← ex_4, ← ex_6]; first | (rw [if_pos (by omega)]; omega) | (rw [if_neg (by omega)]; omega), by rw [← ex_6]; omega, Or.inl ⟨Or.inl (ex_10.symm.trans c_11), ef_12, ef_13, ef_14, ef_15⟩⟩⟩⟩, hS.F ht⟩) hS.2.2 dX6_offer_108
    · have tc_11 : ¬ x_10.toInt = (-1) := v_ne c_11
      refine lv_aload_n hx hb dX6_offer_65 rfl (lv_at hl 2 rfl) ?_
      refine lv_iload_n hx hb dX6_offer_66 rfl (lv_at hl 3 rfl) ?_
      refine lv_iload hx hb dX6_offer_67 (lv_at hl 1 rfl) ?_
      refine lv_iload hx hb dX6_offer_69 (lv_at hl 0 rfl) ?_
      refine lv_iload_n hx hb dX6_offer_71 rfl (lv_at hl 4 rfl) ?_
      have hPc := hP.sub (ws' := [(oQ, .inr (6, [.ref oC, .ref oH, .ref oK, .ref oE, .ref nq, .ref np, .ref nv, .ref q1, .ref q2, .ref q3, .ref q4, .int pr])), (q1, .inl (cI, 61, .inl fQ1)), (q2, .inl (cI, 61, .inl fQ2)), (q3, .inl (cI, 61, .inl fQ3))]) [0, 1, 2, 3] rfl
      have hDc := hD.sub (ws' := [(oQ, .inr (6, [.ref oC, .ref oH, .ref oK, .ref oE, .ref nq, .ref np, .ref nv, .ref q1, .ref q2, .ref q3, .ref q4, .int pr])), (q1, .inl (cI, 61, .inl fQ1)), (q2, .inl (cI, 61, .inl fQ2)), (q3, .inl (cI, 61, .inl fQ3))]) [0, 1, 2, 3] (by decide) rfl
      have hFc := va_free (wc := [(oQ, .inr (6, [.ref oC, .ref oH, .ref oK, .ref oE, .ref nq, .ref np, .ref nv, .ref q1, .ref q2, .ref q3, .ref q4, .int pr])), (q1, .inl (cI, 61, .inl fQ1)), (q2, .inl (cI, 61, .inl fQ2)), (q3, .inl (cI, 61, .inl fQ3))]) hD hS hA [0, 1, 2, 3] rfl
      refine va_calli (va_runV (As := [.int fr, .int x_8, .int x_9, .int en]) (rest := []) ⟨hx, hb, hml, hown, hts⟩ (f_X6_isBetter l dC dI cI cS s.heap.size oQ oC oH oK oE nq np nv q1 q2 q3 q4 pr fQ1 fQ2 fQ3 fr x_8 x_9 en (by omega)) (cwV 4 hts gX6_offer_X6_isBetter rfl rfl rfl (by decide +kernel) ⟨Nat.le_of_ble_eq_true rfl, Nat.le_of_ble_eq_true rfl⟩) ⟨fun a U g mk q => by obtain ⟨q0, q1, qP, qK, qD⟩ := q; exact ⟨q0, q1, qP, va_K.moved (u := U) (U := U.calling g mk a) (Vm.Alike.refl U.vm) qK, qD⟩, va_recv hK hPc (ci := 6) (q0 := 0) rfl rfl, fun U hU hW => ⟨rfl, by rw [hU], by rw [hU]; exact hPc, va_K.moved hW.alike hK, hDc.weaken (fun _ _ _ _ => trivial)⟩⟩ rfl rfl hl.1 rfl (lv_room (Nat.le_of_ble_eq_true rfl)) dX6_offer_72 ⟨Nat.le_of_ble_eq_true rfl, Nat.le_of_ble_eq_true rfl⟩) hS (fun q _ h => hFc q h) hFc (fun r_16 u t H1 locs ht hvm hw hB hz1 hk1 hS => ?_)
      subst hw
      obtain ⟨hP1, hD1, hf16_0, hf16_1⟩ := hB
      rw [ht] at hP1
      obtain ⟨hP, hD⟩ := va_join (wr := [(q4, .inl (cI, 61, .inl fQ4))]) (w1 := [(oQ, .inr (6, [.ref oC, .ref oH, .ref oK, .ref oE, .ref nq, .ref np, .ref nv, .ref q1, .ref q2, .ref q3, .ref q4, .int pr])), (q1, .inl (cI, 61, .inl fQ1)), (q2, .inl (cI, 61, .inl fQ2)), (q3, .inl (cI, 61, .inl fQ3))]) hP hD [0, 1, 2, 3] [4] rfl rfl (by decide) (by decide) hk1 hFc hP1 hD1
      generalize H1 = H at hP hS ⊢
      have hP : va_P (dC, dI) vwCl [(q4, .inl (cI, 61, .inl fQ4)), (oQ, .inr (6, [.ref oC, .ref oH, .ref oK, .ref oE, .ref nq, .ref np, .ref nv, .ref q1, .ref q2, .ref q3, .ref q4, .int pr])), (q1, .inl (cI, 61, .inl fQ1)), (q2, .inl (cI, 61, .inl fQ2)), (q3, .inl (cI, 61, .inl fQ3))] H := hP
      have hD : va_D A [(q4, .inl (cI, 61, .inl fQ4)), (oQ, .inr (6, [.ref oC, .ref oH, .ref oK, .ref oE, .ref nq, .ref np, .ref nv, .ref q1, .ref q2, .ref q3, .ref q4, .int pr])), (q1, .inl (cI, 61, .inl fQ1)), (q2, .inl (cI, 61, .inl fQ2)), (q3, .inl (cI, 61, .inl fQ3))] := hD
      refine lv_if_eq (tgt := 108) hx hb dX6_offer_75 (by decide) (fun c_17 => ?_) (fun c_17 => ?_)
      · have tc_17 : r_16.toInt = 0 := v_eq c_17
        have hP9 := hP.sub (ws' := [(oQ, .inr (6, [.ref oC, .ref oH, .ref oK, .ref oE, .ref nq, .ref np, .ref nv, .ref q1, .ref q2, .ref q3, .ref q4, .int pr])), (q1, .inl (cI, 61, .inl fQ1)), (q2, .inl (cI, 61, .inl fQ2)), (q3, .inl (cI, 61, .inl fQ3)), (q4, .inl (cI, 61, .inl fQ4))]) [1, 2, 3, 4, 0] rfl
        have hD9 := hD.sub (ws' := [(oQ, .inr (6, [.ref oC, .ref oH, .ref oK, .ref oE, .ref nq, .ref np, .ref nv, .ref q1, .ref q2, .ref q3, .ref q4, .int pr])), (q1, .inl (cI, 61, .inl fQ1)), (q2, .inl (cI, 61, .inl fQ2)), (q3, .inl (cI, 61, .inl fQ3)), (q4, .inl (cI, 61, .inl fQ4))]) [1, 2, 3, 4, 0] (by decide) rfl
        rw [hQQ]
        exact W.vret hx hb hr (fun t ht hW => ⟨⟨(), rfl, trivial, ⟨fQ1, fQ2, fQ3, fQ4, by rw [ht]; exact hP9, hD9, ⟨x_8, x_9, by rw [← ex_4, ← ex_6]; first | (rw [if_pos (by omega)]; omega) | (rw [if_neg (by omega)]; omega), by rw [← ex_6]; omega, Or.inr ⟨fun e9 => c_11 (ex_10.trans e9), ib_0 hf16_1 (by omega), rfl, rfl, rfl, rfl⟩⟩⟩⟩, hS.F ht⟩) hS.2.2 dX6_offer_108
      · have tc_17 : ¬ r_16.toInt = 0 := v_ne c_17
        refine lv_aload_n hx hb dX6_offer_78 rfl (lv_at hl 2 rfl) ?_
        refine va_get (D := (dC, dI)) (ci := 6) (v := .ref q1) (C := RX6) (T := TX6) (N := 12) hx hb hts in_X6 hown hK hP 1 rfl rfl 7 (by decide) (hts (.fieldLink RX6 26 "TextMender$Parting" "leastCost" "[I") (List.mem_of_getElem? (i := 1) rfl)) (fun _ h9 => h9) rfl dX6_offer_79 ?_
        refine lv_iload_n hx hb dX6_offer_82 rfl (lv_at hl 3 rfl) ?_
        refine lv_iload hx hb dX6_offer_83 (lv_at hl 1 rfl) ?_
        refine va_iast hx hb hK hP hD hS 2 0 rfl rfl (v_in (by omega)) dX6_offer_85 (fun H locs hP hD hS => ?_)
        have hP : va_P (dC, dI) vwCl [(q4, .inl (cI, 61, .inl fQ4)), (oQ, .inr (6, [.ref oC, .ref oH, .ref oK, .ref oE, .ref nq, .ref np, .ref nv, .ref q1, .ref q2, .ref q3, .ref q4, .int pr])), (q1, .inl (cI, 61, .inl (upd fQ1 (fr : Int32).toNatClampNeg x_8))), (q2, .inl (cI, 61, .inl fQ2)), (q3, .inl (cI, 61, .inl fQ3))] H := hP
        have hD : va_D A [(q4, .inl (cI, 61, .inl fQ4)), (oQ, .inr (6, [.ref oC, .ref oH, .ref oK, .ref oE, .ref nq, .ref np, .ref nv, .ref q1, .ref q2, .ref q3, .ref q4, .int pr])), (q1, .inl (cI, 61, .inl (upd fQ1 (fr : Int32).toNatClampNeg x_8))), (q2, .inl (cI, 61, .inl fQ2)), (q3, .inl (cI, 61, .inl fQ3))] := hD
        obtain ⟨f_18, ef_18⟩ : ∃ g : Nat → Int32, g = upd fQ1 (fr : Int32).toNatClampNeg x_8 := ⟨_, rfl⟩
        rw [← ef_18] at hP hD
        refine lv_aload_n hx hb dX6_offer_86 rfl (lv_at hl 2 rfl) ?_
        refine va_get (D := (dC, dI)) (ci := 6) (v := .ref q2) (C := RX6) (T := TX6) (N := 12) hx hb hts in_X6 hown hK hP 1 rfl rfl 8 (by decide) (hts (.fieldLink RX6 30 "TextMender$Parting" "spansFrom" "[I") (List.mem_of_getElem? (i := 2) rfl)) (fun _ h9 => h9) rfl dX6_offer_87 ?_
        refine lv_iload_n hx hb dX6_offer_90 rfl (lv_at hl 3 rfl) ?_
        refine lv_iload hx hb dX6_offer_91 (lv_at hl 0 rfl) ?_
        refine va_iast hx hb hK hP hD hS 3 0 rfl rfl (v_in (by omega)) dX6_offer_93 (fun H locs hP hD hS => ?_)
        have hP : va_P (dC, dI) vwCl [(q4, .inl (cI, 61, .inl fQ4)), (oQ, .inr (6, [.ref oC, .ref oH, .ref oK, .ref oE, .ref nq, .ref np, .ref nv, .ref q1, .ref q2, .ref q3, .ref q4, .int pr])), (q1, .inl (cI, 61, .inl f_18)), (q2, .inl (cI, 61, .inl (upd fQ2 (fr : Int32).toNatClampNeg x_9))), (q3, .inl (cI, 61, .inl fQ3))] H := hP
        have hD : va_D A [(q4, .inl (cI, 61, .inl fQ4)), (oQ, .inr (6, [.ref oC, .ref oH, .ref oK, .ref oE, .ref nq, .ref np, .ref nv, .ref q1, .ref q2, .ref q3, .ref q4, .int pr])), (q1, .inl (cI, 61, .inl f_18)), (q2, .inl (cI, 61, .inl (upd fQ2 (fr : Int32).toNatClampNeg x_9))), (q3, .inl (cI, 61, .inl fQ3))] := hD
        obtain ⟨f_19, ef_19⟩ : ∃ g : Nat → Int32, g = upd fQ2 (fr : Int32).toNatClampNeg x_9 := ⟨_, rfl⟩
        rw [← ef_19] at hP hD
        refine lv_aload_n hx hb dX6_offer_94 rfl (lv_at hl 2 rfl) ?_
        refine va_get (D := (dC, dI)) (ci := 6) (v := .ref q3) (C := RX6) (T := TX6) (N := 12) hx hb hts in_X6 hown hK hP 1 rfl rfl 9 (by decide) (hts (.fieldLink RX6 33 "TextMender$Parting" "endOf" "[I") (List.mem_of_getElem? (i := 4) rfl)) (fun _ h9 => h9) rfl dX6_offer_95 ?_
        refine lv_iload_n hx hb dX6_offer_98 rfl (lv_at hl 3 rfl) ?_
        refine lv_iload_n hx hb dX6_offer_99 rfl (lv_at hl 4 rfl) ?_
        refine va_iast hx hb hK hP hD hS 4 0 rfl rfl (v_in (by omega)) dX6_offer_100 (fun H locs hP hD hS => ?_)
        have hP : va_P (dC, dI) vwCl [(q4, .inl (cI, 61, .inl fQ4)), (oQ, .inr (6, [.ref oC, .ref oH, .ref oK, .ref oE, .ref nq, .ref np, .ref nv, .ref q1, .ref q2, .ref q3, .ref q4, .int pr])), (q1, .inl (cI, 61, .inl f_18)), (q2, .inl (cI, 61, .inl f_19)), (q3, .inl (cI, 61, .inl (upd fQ3 (fr : Int32).toNatClampNeg en)))] H := hP
        have hD : va_D A [(q4, .inl (cI, 61, .inl fQ4)), (oQ, .inr (6, [.ref oC, .ref oH, .ref oK, .ref oE, .ref nq, .ref np, .ref nv, .ref q1, .ref q2, .ref q3, .ref q4, .int pr])), (q1, .inl (cI, 61, .inl f_18)), (q2, .inl (cI, 61, .inl f_19)), (q3, .inl (cI, 61, .inl (upd fQ3 (fr : Int32).toNatClampNeg en)))] := hD
        obtain ⟨f_20, ef_20⟩ : ∃ g : Nat → Int32, g = upd fQ3 (fr : Int32).toNatClampNeg en := ⟨_, rfl⟩
        rw [← ef_20] at hP hD
        refine lv_aload_n hx hb dX6_offer_101 rfl (lv_at hl 2 rfl) ?_
        refine va_get (D := (dC, dI)) (ci := 6) (v := .ref q4) (C := RX6) (T := TX6) (N := 12) hx hb hts in_X6 hown hK hP 1 rfl rfl 10 (by decide) (hts (.fieldLink RX6 36 "TextMender$Parting" "harmOf" "[I") (List.mem_of_getElem? (i := 5) rfl)) (fun _ h9 => h9) rfl dX6_offer_102 ?_
        refine lv_iload_n hx hb dX6_offer_105 rfl (lv_at hl 3 rfl) ?_
        refine lv_iload_n hx hb dX6_offer_106 rfl (lv_at hl 5 rfl) ?_
        refine va_iast hx hb hK hP hD hS 0 0 rfl rfl (v_in (by omega)) dX6_offer_107 (fun H locs hP hD hS => ?_)
        have hP : va_P (dC, dI) vwCl [(q4, .inl (cI, 61, .inl (upd fQ4 (fr : Int32).toNatClampNeg h))), (oQ, .inr (6, [.ref oC, .ref oH, .ref oK, .ref oE, .ref nq, .ref np, .ref nv, .ref q1, .ref q2, .ref q3, .ref q4, .int pr])), (q1, .inl (cI, 61, .inl f_18)), (q2, .inl (cI, 61, .inl f_19)), (q3, .inl (cI, 61, .inl f_20))] H := hP
        have hD : va_D A [(q4, .inl (cI, 61, .inl (upd fQ4 (fr : Int32).toNatClampNeg h))), (oQ, .inr (6, [.ref oC, .ref oH, .ref oK, .ref oE, .ref nq, .ref np, .ref nv, .ref q1, .ref q2, .ref q3, .ref q4, .int pr])), (q1, .inl (cI, 61, .inl f_18)), (q2, .inl (cI, 61, .inl f_19)), (q3, .inl (cI, 61, .inl f_20))] := hD
        obtain ⟨f_21, ef_21⟩ : ∃ g : Nat → Int32, g = upd fQ4 (fr : Int32).toNatClampNeg h := ⟨_, rfl⟩
        rw [← ef_21] at hP hD
        have hP9 := hP.sub (ws' := [(oQ, .inr (6, [.ref oC, .ref oH, .ref oK, .ref oE, .ref nq, .ref np, .ref nv, .ref q1, .ref q2, .ref q3, .ref q4, .int pr])), (q1, .inl (cI, 61, .inl f_18)), (q2, .inl (cI, 61, .inl f_19)), (q3, .inl (cI, 61, .inl f_20)), (q4, .inl (cI, 61, .inl f_21))]) [1, 2, 3, 4, 0] rfl
        have hD9 := hD.sub (ws' := [(oQ, .inr (6, [.ref oC, .ref oH, .ref oK, .ref oE, .ref nq, .ref np, .ref nv, .ref q1, .ref q2, .ref q3, .ref q4, .int pr])), (q1, .inl (cI, 61, .inl f_18)), (q2, .inl (cI, 61, .inl f_19)), (q3, .inl (cI, 61, .inl f_20)), (q4, .inl (cI, 61, .inl f_21))]) [1, 2, 3, 4, 0] (by decide) rfl
        rw [hQQ]
        exact W.vret hx hb hr (fun t ht hW => ⟨⟨(), rfl, trivial, ⟨f_18, f_19, f_20, f_21, by rw [ht]; exact hP9, hD9, ⟨x_8, x_9, by rw [← ex_4, ← ex_6]; first | (rw [if_pos (by omega)]; omega) | (rw [if_neg (by omega)]; omega), by rw [← ex_6]; omega, Or.inl ⟨Or.inr (ib_1 hf16_1 (by omega)), ef_18, ef_19, ef_20, ef_21⟩⟩⟩⟩, hS.F ht⟩) hS.2.2 dX6_offer_108
  · have tc_7 : 0 < x_6.toInt := v_nle c_7
    refine lv_aload_n hx hb dX6_offer_34 rfl (lv_at hl 0 rfl) ?_
    refine va_get (D := (dC, dI)) (ci := 6) (v := .int pr) (C := RX6) (T := TX6) (N := 12) hx hb hts in_X6 hown hK hP 0 rfl rfl 11 (by decide) (hts (.fieldLink RX6 60 "TextMender$Parting" "price" "I") (List.mem_of_getElem? (i := 3) rfl)) (fun _ h9 => h9) rfl dX6_offer_35 ?_
    refine lv_goto (tgt := 42) hx hb dX6_offer_38 (by decide) ?_
    refine lv_iadd hx hb dX6_offer_42 ?_
    refine lv_topi (fun x_22 ex_22 => ?_)
    have tx_22 : x_22.toInt = x_5.toInt + pr.toInt := v_add ex_22 (by show -2147483648 ≤ x_5.toInt + pr.toInt; omega) (by show x_5.toInt + pr.toInt < 2147483648; omega)
    refine lv_istore (lv' := [(5, .int x_22), (0, .ref oQ), (1, .int fr), (2, .int en), (3, .int h), (4, .int cs)]) hx hb dX6_offer_43 hl (by decide) rfl (fun ls hl => ?_)
    refine lv_iconst (v := 1) hx hb dX6_offer_45 (by decide) ?_
    refine lv_aload_n hx hb dX6_offer_46 rfl (lv_at hl 1 rfl) ?_
    refine va_get (D := (dC, dI)) (ci := 6) (v := .ref q2) (C := RX6) (T := TX6) (N := 12) hx hb hts in_X6 hown hK hP 0 rfl rfl 8 (by decide) (hts (.fieldLink RX6 30 "TextMender$Parting" "spansFrom" "[I") (List.mem_of_getElem? (i := 2) rfl)) (fun _ h9 => h9) rfl dX6_offer_47 ?_
    refine lv_iload_n hx hb dX6_offer_50 rfl (lv_at hl 3 rfl) ?_
    refine va_iald hx hb hK hP 2 0 rfl rfl (v_in (by omega)) dX6_offer_51 ?_
    refine k_i (y := x_6) ex_6.symm ?_
    refine lv_iadd hx hb dX6_offer_52 ?_
    refine lv_topi (fun x_23 ex_23 => ?_)
    have tx_23 : x_23.toInt = 1 + x_6.toInt := v_add ex_23 (by show -2147483648 ≤ 1 + x_6.toInt; omega) (by show 1 + x_6.toInt < 2147483648; omega)
    refine lv_istore (lv' := [(6, .int x_23), (5, .int x_22), (0, .ref oQ), (1, .int fr), (2, .int en), (3, .int h), (4, .int cs)]) hx hb dX6_offer_53 hl (by decide) rfl (fun ls hl => ?_)
    refine lv_aload_n hx hb dX6_offer_55 rfl (lv_at hl 2 rfl) ?_
    refine va_get (D := (dC, dI)) (ci := 6) (v := .ref q1) (C := RX6) (T := TX6) (N := 12) hx hb hts in_X6 hown hK hP 0 rfl rfl 7 (by decide) (hts (.fieldLink RX6 26 "TextMender$Parting" "leastCost" "[I") (List.mem_of_getElem? (i := 1) rfl)) (fun _ h9 => h9) rfl dX6_offer_56 ?_
    refine lv_iload_n hx hb dX6_offer_59 rfl (lv_at hl 3 rfl) ?_
    refine va_iald hx hb hK hP 1 0 rfl rfl (v_in (by omega)) dX6_offer_60 ?_
    refine lv_topi (fun x_24 ex_24 => ?_)
    refine lv_iconst (v := (-1)) hx hb dX6_offer_61 (by decide) ?_
    refine lv_icmp_eq (tgt := 78) hx hb dX6_offer_62 (by decide) (fun c_25 => ?_) (fun c_25 => ?_)
    · have tc_25 : x_24.toInt = (-1) := v_eq c_25
      refine lv_aload_n hx hb dX6_offer_78 rfl (lv_at hl 2 rfl) ?_
      refine va_get (D := (dC, dI)) (ci := 6) (v := .ref q1) (C := RX6) (T := TX6) (N := 12) hx hb hts in_X6 hown hK hP 0 rfl rfl 7 (by decide) (hts (.fieldLink RX6 26 "TextMender$Parting" "leastCost" "[I") (List.mem_of_getElem? (i := 1) rfl)) (fun _ h9 => h9) rfl dX6_offer_79 ?_
      refine lv_iload_n hx hb dX6_offer_82 rfl (lv_at hl 3 rfl) ?_
      refine lv_iload hx hb dX6_offer_83 (lv_at hl 1 rfl) ?_
      refine va_iast hx hb hK hP hD hS 1 0 rfl rfl (v_in (by omega)) dX6_offer_85 (fun H locs hP hD hS => ?_)
      have hP : va_P (dC, dI) vwCl [(oQ, .inr (6, [.ref oC, .ref oH, .ref oK, .ref oE, .ref nq, .ref np, .ref nv, .ref q1, .ref q2, .ref q3, .ref q4, .int pr])), (q1, .inl (cI, 61, .inl (upd fQ1 (fr : Int32).toNatClampNeg x_22))), (q2, .inl (cI, 61, .inl fQ2)), (q3, .inl (cI, 61, .inl fQ3)), (q4, .inl (cI, 61, .inl fQ4))] H := hP
      have hD : va_D A [(oQ, .inr (6, [.ref oC, .ref oH, .ref oK, .ref oE, .ref nq, .ref np, .ref nv, .ref q1, .ref q2, .ref q3, .ref q4, .int pr])), (q1, .inl (cI, 61, .inl (upd fQ1 (fr : Int32).toNatClampNeg x_22))), (q2, .inl (cI, 61, .inl fQ2)), (q3, .inl (cI, 61, .inl fQ3)), (q4, .inl (cI, 61, .inl fQ4))] := hD
      obtain ⟨f_26, ef_26⟩ : ∃ g : Nat → Int32, g = upd fQ1 (fr : Int32).toNatClampNeg x_22 := ⟨_, rfl⟩
      rw [← ef_26] at hP hD
      refine lv_aload_n hx hb dX6_offer_86 rfl (lv_at hl 2 rfl) ?_
      refine va_get (D := (dC, dI)) (ci := 6) (v := .ref q2) (C := RX6) (T := TX6) (N := 12) hx hb hts in_X6 hown hK hP 0 rfl rfl 8 (by decide) (hts (.fieldLink RX6 30 "TextMender$Parting" "spansFrom" "[I") (List.mem_of_getElem? (i := 2) rfl)) (fun _ h9 => h9) rfl dX6_offer_87 ?_
      refine lv_iload_n hx hb dX6_offer_90 rfl (lv_at hl 3 rfl) ?_
      refine lv_iload hx hb dX6_offer_91 (lv_at hl 0 rfl) ?_
      refine va_iast hx hb hK hP hD hS 2 0 rfl rfl (v_in (by omega)) dX6_offer_93 (fun H locs hP hD hS => ?_)
      have hP : va_P (dC, dI) vwCl [(oQ, .inr (6, [.ref oC, .ref oH, .ref oK, .ref oE, .ref nq, .ref np, .ref nv, .ref q1, .ref q2, .ref q3, .ref q4, .int pr])), (q1, .inl (cI, 61, .inl f_26)), (q2, .inl (cI, 61, .inl (upd fQ2 (fr : Int32).toNatClampNeg x_23))), (q3, .inl (cI, 61, .inl fQ3)), (q4, .inl (cI, 61, .inl fQ4))] H := hP
      have hD : va_D A [(oQ, .inr (6, [.ref oC, .ref oH, .ref oK, .ref oE, .ref nq, .ref np, .ref nv, .ref q1, .ref q2, .ref q3, .ref q4, .int pr])), (q1, .inl (cI, 61, .inl f_26)), (q2, .inl (cI, 61, .inl (upd fQ2 (fr : Int32).toNatClampNeg x_23))), (q3, .inl (cI, 61, .inl fQ3)), (q4, .inl (cI, 61, .inl fQ4))] := hD
      obtain ⟨f_27, ef_27⟩ : ∃ g : Nat → Int32, g = upd fQ2 (fr : Int32).toNatClampNeg x_23 := ⟨_, rfl⟩
      rw [← ef_27] at hP hD
      refine lv_aload_n hx hb dX6_offer_94 rfl (lv_at hl 2 rfl) ?_
      refine va_get (D := (dC, dI)) (ci := 6) (v := .ref q3) (C := RX6) (T := TX6) (N := 12) hx hb hts in_X6 hown hK hP 0 rfl rfl 9 (by decide) (hts (.fieldLink RX6 33 "TextMender$Parting" "endOf" "[I") (List.mem_of_getElem? (i := 4) rfl)) (fun _ h9 => h9) rfl dX6_offer_95 ?_
      refine lv_iload_n hx hb dX6_offer_98 rfl (lv_at hl 3 rfl) ?_
      refine lv_iload_n hx hb dX6_offer_99 rfl (lv_at hl 4 rfl) ?_
      refine va_iast hx hb hK hP hD hS 3 0 rfl rfl (v_in (by omega)) dX6_offer_100 (fun H locs hP hD hS => ?_)
      have hP : va_P (dC, dI) vwCl [(oQ, .inr (6, [.ref oC, .ref oH, .ref oK, .ref oE, .ref nq, .ref np, .ref nv, .ref q1, .ref q2, .ref q3, .ref q4, .int pr])), (q1, .inl (cI, 61, .inl f_26)), (q2, .inl (cI, 61, .inl f_27)), (q3, .inl (cI, 61, .inl (upd fQ3 (fr : Int32).toNatClampNeg en))), (q4, .inl (cI, 61, .inl fQ4))] H := hP
      have hD : va_D A [(oQ, .inr (6, [.ref oC, .ref oH, .ref oK, .ref oE, .ref nq, .ref np, .ref nv, .ref q1, .ref q2, .ref q3, .ref q4, .int pr])), (q1, .inl (cI, 61, .inl f_26)), (q2, .inl (cI, 61, .inl f_27)), (q3, .inl (cI, 61, .inl (upd fQ3 (fr : Int32).toNatClampNeg en))), (q4, .inl (cI, 61, .inl fQ4))] := hD
      obtain ⟨f_28, ef_28⟩ : ∃ g : Nat → Int32, g = upd fQ3 (fr : Int32).toNatClampNeg en := ⟨_, rfl⟩
      rw [← ef_28] at hP hD
      refine lv_aload_n hx hb dX6_offer_101 rfl (lv_at hl 2 rfl) ?_
      refine va_get (D := (dC, dI)) (ci := 6) (v := .ref q4) (C := RX6) (T := TX6) (N := 12) hx hb hts in_X6 hown hK hP 0 rfl rfl 10 (by decide) (hts (.fieldLink RX6 36 "TextMender$Parting" "harmOf" "[I") (List.mem_of_getElem? (i := 5) rfl)) (fun _ h9 => h9) rfl dX6_offer_102 ?_
      refine lv_iload_n hx hb dX6_offer_105 rfl (lv_at hl 3 rfl) ?_
      refine lv_iload_n hx hb dX6_offer_106 rfl (lv_at hl 5 rfl) ?_
      refine va_iast hx hb hK hP hD hS 4 0 rfl rfl (v_in (by omega)) dX6_offer_107 (fun H locs hP hD hS => ?_)
      have hP : va_P (dC, dI) vwCl [(oQ, .inr (6, [.ref oC, .ref oH, .ref oK, .ref oE, .ref nq, .ref np, .ref nv, .ref q1, .ref q2, .ref q3, .ref q4, .int pr])), (q1, .inl (cI, 61, .inl f_26)), (q2, .inl (cI, 61, .inl f_27)), (q3, .inl (cI, 61, .inl f_28)), (q4, .inl (cI, 61, .inl (upd fQ4 (fr : Int32).toNatClampNeg h)))] H := hP
      have hD : va_D A [(oQ, .inr (6, [.ref oC, .ref oH, .ref oK, .ref oE, .ref nq, .ref np, .ref nv, .ref q1, .ref q2, .ref q3, .ref q4, .int pr])), (q1, .inl (cI, 61, .inl f_26)), (q2, .inl (cI, 61, .inl f_27)), (q3, .inl (cI, 61, .inl f_28)), (q4, .inl (cI, 61, .inl (upd fQ4 (fr : Int32).toNatClampNeg h)))] := hD
      obtain ⟨f_29, ef_29⟩ : ∃ g : Nat → Int32, g = upd fQ4 (fr : Int32).toNatClampNeg h := ⟨_, rfl⟩
      rw [← ef_29] at hP hD
      have hP9 := hP.sub (ws' := [(oQ, .inr (6, [.ref oC, .ref oH, .ref oK, .ref oE, .ref nq, .ref np, .ref nv, .ref q1, .ref q2, .ref q3, .ref q4, .int pr])), (q1, .inl (cI, 61, .inl f_26)), (q2, .inl (cI, 61, .inl f_27)), (q3, .inl (cI, 61, .inl f_28)), (q4, .inl (cI, 61, .inl f_29))]) [0, 1, 2, 3, 4] rfl
      have hD9 := hD.sub (ws' := [(oQ, .inr (6, [.ref oC, .ref oH, .ref oK, .ref oE, .ref nq, .ref np, .ref nv, .ref q1, .ref q2, .ref q3, .ref q4, .int pr])), (q1, .inl (cI, 61, .inl f_26)), (q2, .inl (cI, 61, .inl f_27)), (q3, .inl (cI, 61, .inl f_28)), (q4, .inl (cI, 61, .inl f_29))]) [0, 1, 2, 3, 4] (by decide) rfl
      rw [hQQ]
      exact W.vret hx hb hr (fun t ht hW => ⟨⟨(), rfl, trivial, ⟨f_26, f_27, f_28, f_29, by rw [ht]; exact hP9, hD9, ⟨x_22, x_23, by rw [← ex_4, ← ex_6]; first | (rw [if_pos (by omega)]; omega) | (rw [if_neg (by omega)]; omega), by rw [← ex_6]; omega, Or.inl ⟨Or.inl (ex_24.symm.trans c_25), ef_26, ef_27, ef_28, ef_29⟩⟩⟩⟩, hS.F ht⟩) hS.2.2 dX6_offer_108
    · have tc_25 : ¬ x_24.toInt = (-1) := v_ne c_25
      refine lv_aload_n hx hb dX6_offer_65 rfl (lv_at hl 2 rfl) ?_
      refine lv_iload_n hx hb dX6_offer_66 rfl (lv_at hl 3 rfl) ?_
      refine lv_iload hx hb dX6_offer_67 (lv_at hl 1 rfl) ?_
      refine lv_iload hx hb dX6_offer_69 (lv_at hl 0 rfl) ?_
      refine lv_iload_n hx hb dX6_offer_71 rfl (lv_at hl 4 rfl) ?_
      have hPc := hP.sub (ws' := [(oQ, .inr (6, [.ref oC, .ref oH, .ref oK, .ref oE, .ref nq, .ref np, .ref nv, .ref q1, .ref q2, .ref q3, .ref q4, .int pr])), (q1, .inl (cI, 61, .inl fQ1)), (q2, .inl (cI, 61, .inl fQ2)), (q3, .inl (cI, 61, .inl fQ3))]) [0, 1, 2, 3] rfl
      have hDc := hD.sub (ws' := [(oQ, .inr (6, [.ref oC, .ref oH, .ref oK, .ref oE, .ref nq, .ref np, .ref nv, .ref q1, .ref q2, .ref q3, .ref q4, .int pr])), (q1, .inl (cI, 61, .inl fQ1)), (q2, .inl (cI, 61, .inl fQ2)), (q3, .inl (cI, 61, .inl fQ3))]) [0, 1, 2, 3] (by decide) rfl
      have hFc := va_free (wc := [(oQ, .inr (6, [.ref oC, .ref oH, .ref oK, .ref oE, .ref nq, .ref np, .ref nv, .ref q1, .ref q2, .ref q3, .ref q4, .int pr])), (q1, .inl (cI, 61, .inl fQ1)), (q2, .inl (cI, 61, .inl fQ2)), (q3, .inl (cI, 61, .inl fQ3))]) hD hS hA [0, 1, 2, 3] rfl
      refine va_calli (va_runV (As := [.int fr, .int x_22, .int x_23, .int en]) (rest := []) ⟨hx, hb, hml, hown, hts⟩ (f_X6_isBetter l dC dI cI cS s.heap.size oQ oC oH oK oE nq np nv q1 q2 q3 q4 pr fQ1 fQ2 fQ3 fr x_22 x_23 en (by omega)) (cwV 4 hts gX6_offer_X6_isBetter rfl rfl rfl (by decide +kernel) ⟨Nat.le_of_ble_eq_true rfl, Nat.le_of_ble_eq_true rfl⟩) ⟨fun a U g mk q => by obtain ⟨q0, q1, qP, qK, qD⟩ := q; exact ⟨q0, q1, qP, va_K.moved (u := U) (U := U.calling g mk a) (Vm.Alike.refl U.vm) qK, qD⟩, va_recv hK hPc (ci := 6) (q0 := 0) rfl rfl, fun U hU hW => ⟨rfl, by rw [hU], by rw [hU]; exact hPc, va_K.moved hW.alike hK, hDc.weaken (fun _ _ _ _ => trivial)⟩⟩ rfl rfl hl.1 rfl (lv_room (Nat.le_of_ble_eq_true rfl)) dX6_offer_72 ⟨Nat.le_of_ble_eq_true rfl, Nat.le_of_ble_eq_true rfl⟩) hS (fun q _ h => hFc q h) hFc (fun r_30 u t H1 locs ht hvm hw hB hz1 hk1 hS => ?_)
      subst hw
      obtain ⟨hP1, hD1, hf30_0, hf30_1⟩ := hB
      rw [ht] at hP1
      obtain ⟨hP, hD⟩ := va_join (wr := [(q4, .inl (cI, 61, .inl fQ4))]) (w1 := [(oQ, .inr (6, [.ref oC, .ref oH, .ref oK, .ref oE, .ref nq, .ref np, .ref nv, .ref q1, .ref q2, .ref q3, .ref q4, .int pr])), (q1, .inl (cI, 61, .inl fQ1)), (q2, .inl (cI, 61, .inl fQ2)), (q3, .inl (cI, 61, .inl fQ3))]) hP hD [0, 1, 2, 3] [4] rfl rfl (by decide) (by decide) hk1 hFc hP1 hD1
      generalize H1 = H at hP hS ⊢
      have hP : va_P (dC, dI) vwCl [(q4, .inl (cI, 61, .inl fQ4)), (oQ, .inr (6, [.ref oC, .ref oH, .ref oK, .ref oE, .ref nq, .ref np, .ref nv, .ref q1, .ref q2, .ref q3, .ref q4, .int pr])), (q1, .inl (cI, 61, .inl fQ1)), (q2, .inl (cI, 61, .inl fQ2)), (q3, .inl (cI, 61, .inl fQ3))] H := hP
      have hD : va_D A [(q4, .inl (cI, 61, .inl fQ4)), (oQ, .inr (6, [.ref oC, .ref oH, .ref oK, .ref oE, .ref nq, .ref np, .ref nv, .ref q1, .ref q2, .ref q3, .ref q4, .int pr])), (q1, .inl (cI, 61, .inl fQ1)), (q2, .inl (cI, 61, .inl fQ2)), (q3, .inl (cI, 61, .inl fQ3))] := hD
      refine lv_if_eq (tgt := 108) hx hb dX6_offer_75 (by decide) (fun c_31 => ?_) (fun c_31 => ?_)
      · have tc_31 : r_30.toInt = 0 := v_eq c_31
        have hP9 := hP.sub (ws' := [(oQ, .inr (6, [.ref oC, .ref oH, .ref oK, .ref oE, .ref nq, .ref np, .ref nv, .ref q1, .ref q2, .ref q3, .ref q4, .int pr])), (q1, .inl (cI, 61, .inl fQ1)), (q2, .inl (cI, 61, .inl fQ2)), (q3, .inl (cI, 61, .inl fQ3)), (q4, .inl (cI, 61, .inl fQ4))]) [1, 2, 3, 4, 0] rfl
        have hD9 := hD.sub (ws' := [(oQ, .inr (6, [.ref oC, .ref oH, .ref oK, .ref oE, .ref nq, .ref np, .ref nv, .ref q1, .ref q2, .ref q3, .ref q4, .int pr])), (q1, .inl (cI, 61, .inl fQ1)), (q2, .inl (cI, 61, .inl fQ2)), (q3, .inl (cI, 61, .inl fQ3)), (q4, .inl (cI, 61, .inl fQ4))]) [1, 2, 3, 4, 0] (by decide) rfl
        rw [hQQ]
        exact W.vret hx hb hr (fun t ht hW => ⟨⟨(), rfl, trivial, ⟨fQ1, fQ2, fQ3, fQ4, by rw [ht]; exact hP9, hD9, ⟨x_22, x_23, by rw [← ex_4, ← ex_6]; first | (rw [if_pos (by omega)]; omega) | (rw [if_neg (by omega)]; omega), by rw [← ex_6]; omega, Or.inr ⟨fun e9 => c_25 (ex_24.trans e9), ib_0 hf30_1 (by omega), rfl, rfl, rfl, rfl⟩⟩⟩⟩, hS.F ht⟩) hS.2.2 dX6_offer_108
      · have tc_31 : ¬ r_30.toInt = 0 := v_ne c_31
        refine lv_aload_n hx hb dX6_offer_78 rfl (lv_at hl 2 rfl) ?_
        refine va_get (D := (dC, dI)) (ci := 6) (v := .ref q1) (C := RX6) (T := TX6) (N := 12) hx hb hts in_X6 hown hK hP 1 rfl rfl 7 (by decide) (hts (.fieldLink RX6 26 "TextMender$Parting" "leastCost" "[I") (List.mem_of_getElem? (i := 1) rfl)) (fun _ h9 => h9) rfl dX6_offer_79 ?_
        refine lv_iload_n hx hb dX6_offer_82 rfl (lv_at hl 3 rfl) ?_
        refine lv_iload hx hb dX6_offer_83 (lv_at hl 1 rfl) ?_
        refine va_iast hx hb hK hP hD hS 2 0 rfl rfl (v_in (by omega)) dX6_offer_85 (fun H locs hP hD hS => ?_)
        have hP : va_P (dC, dI) vwCl [(q4, .inl (cI, 61, .inl fQ4)), (oQ, .inr (6, [.ref oC, .ref oH, .ref oK, .ref oE, .ref nq, .ref np, .ref nv, .ref q1, .ref q2, .ref q3, .ref q4, .int pr])), (q1, .inl (cI, 61, .inl (upd fQ1 (fr : Int32).toNatClampNeg x_22))), (q2, .inl (cI, 61, .inl fQ2)), (q3, .inl (cI, 61, .inl fQ3))] H := hP
        have hD : va_D A [(q4, .inl (cI, 61, .inl fQ4)), (oQ, .inr (6, [.ref oC, .ref oH, .ref oK, .ref oE, .ref nq, .ref np, .ref nv, .ref q1, .ref q2, .ref q3, .ref q4, .int pr])), (q1, .inl (cI, 61, .inl (upd fQ1 (fr : Int32).toNatClampNeg x_22))), (q2, .inl (cI, 61, .inl fQ2)), (q3, .inl (cI, 61, .inl fQ3))] := hD
        obtain ⟨f_32, ef_32⟩ : ∃ g : Nat → Int32, g = upd fQ1 (fr : Int32).toNatClampNeg x_22 := ⟨_, rfl⟩
        rw [← ef_32] at hP hD
        refine lv_aload_n hx hb dX6_offer_86 rfl (lv_at hl 2 rfl) ?_
        refine va_get (D := (dC, dI)) (ci := 6) (v := .ref q2) (C := RX6) (T := TX6) (N := 12) hx hb hts in_X6 hown hK hP 1 rfl rfl 8 (by decide) (hts (.fieldLink RX6 30 "TextMender$Parting" "spansFrom" "[I") (List.mem_of_getElem? (i := 2) rfl)) (fun _ h9 => h9) rfl dX6_offer_87 ?_
        refine lv_iload_n hx hb dX6_offer_90 rfl (lv_at hl 3 rfl) ?_
        refine lv_iload hx hb dX6_offer_91 (lv_at hl 0 rfl) ?_
        refine va_iast hx hb hK hP hD hS 3 0 rfl rfl (v_in (by omega)) dX6_offer_93 (fun H locs hP hD hS => ?_)
        have hP : va_P (dC, dI) vwCl [(q4, .inl (cI, 61, .inl fQ4)), (oQ, .inr (6, [.ref oC, .ref oH, .ref oK, .ref oE, .ref nq, .ref np, .ref nv, .ref q1, .ref q2, .ref q3, .ref q4, .int pr])), (q1, .inl (cI, 61, .inl f_32)), (q2, .inl (cI, 61, .inl (upd fQ2 (fr : Int32).toNatClampNeg x_23))), (q3, .inl (cI, 61, .inl fQ3))] H := hP
        have hD : va_D A [(q4, .inl (cI, 61, .inl fQ4)), (oQ, .inr (6, [.ref oC, .ref oH, .ref oK, .ref oE, .ref nq, .ref np, .ref nv, .ref q1, .ref q2, .ref q3, .ref q4, .int pr])), (q1, .inl (cI, 61, .inl f_32)), (q2, .inl (cI, 61, .inl (upd fQ2 (fr : Int32).toNatClampNeg x_23))), (q3, .inl (cI, 61, .inl fQ3))] := hD
        obtain ⟨f_33, ef_33⟩ : ∃ g : Nat → Int32, g = upd fQ2 (fr : Int32).toNatClampNeg x_23 := ⟨_, rfl⟩
        rw [← ef_33] at hP hD
        refine lv_aload_n hx hb dX6_offer_94 rfl (lv_at hl 2 rfl) ?_
        refine va_get (D := (dC, dI)) (ci := 6) (v := .ref q3) (C := RX6) (T := TX6) (N := 12) hx hb hts in_X6 hown hK hP 1 rfl rfl 9 (by decide) (hts (.fieldLink RX6 33 "TextMender$Parting" "endOf" "[I") (List.mem_of_getElem? (i := 4) rfl)) (fun _ h9 => h9) rfl dX6_offer_95 ?_
        refine lv_iload_n hx hb dX6_offer_98 rfl (lv_at hl 3 rfl) ?_
        refine lv_iload_n hx hb dX6_offer_99 rfl (lv_at hl 4 rfl) ?_
        refine va_iast hx hb hK hP hD hS 4 0 rfl rfl (v_in (by omega)) dX6_offer_100 (fun H locs hP hD hS => ?_)
        have hP : va_P (dC, dI) vwCl [(q4, .inl (cI, 61, .inl fQ4)), (oQ, .inr (6, [.ref oC, .ref oH, .ref oK, .ref oE, .ref nq, .ref np, .ref nv, .ref q1, .ref q2, .ref q3, .ref q4, .int pr])), (q1, .inl (cI, 61, .inl f_32)), (q2, .inl (cI, 61, .inl f_33)), (q3, .inl (cI, 61, .inl (upd fQ3 (fr : Int32).toNatClampNeg en)))] H := hP
        have hD : va_D A [(q4, .inl (cI, 61, .inl fQ4)), (oQ, .inr (6, [.ref oC, .ref oH, .ref oK, .ref oE, .ref nq, .ref np, .ref nv, .ref q1, .ref q2, .ref q3, .ref q4, .int pr])), (q1, .inl (cI, 61, .inl f_32)), (q2, .inl (cI, 61, .inl f_33)), (q3, .inl (cI, 61, .inl (upd fQ3 (fr : Int32).toNatClampNeg en)))] := hD
        obtain ⟨f_34, ef_34⟩ : ∃ g : Nat → Int32, g = upd fQ3 (fr : Int32).toNatClampNeg en := ⟨_, rfl⟩
        rw [← ef_34] at hP hD
        refine lv_aload_n hx hb dX6_offer_101 rfl (lv_at hl 2 rfl) ?_
        refine va_get (D := (dC, dI)) (ci := 6) (v := .ref q4) (C := RX6) (T := TX6) (N := 12) hx hb hts in_X6 hown hK hP 1 rfl rfl 10 (by decide) (hts (.fieldLink RX6 36 "TextMender$Parting" "harmOf" "[I") (List.mem_of_getElem? (i := 5) rfl)) (fun _ h9 => h9) rfl dX6_offer_102 ?_
        refine lv_iload_n hx hb dX6_offer_105 rfl (lv_at hl 3 rfl) ?_
        refine lv_iload_n hx hb dX6_offer_106 rfl (lv_at hl 5 rfl) ?_
        refine va_iast hx hb hK hP hD hS 0 0 rfl rfl (v_in (by omega)) dX6_offer_107 (fun H locs hP hD hS => ?_)
        have hP : va_P (dC, dI) vwCl [(q4, .inl (cI, 61, .inl (upd fQ4 (fr : Int32).toNatClampNeg h))), (oQ, .inr (6, [.ref oC, .ref oH, .ref oK, .ref oE, .ref nq, .ref np, .ref nv, .ref q1, .ref q2, .ref q3, .ref q4, .int pr])), (q1, .inl (cI, 61, .inl f_32)), (q2, .inl (cI, 61, .inl f_33)), (q3, .inl (cI, 61, .inl f_34))] H := hP
        have hD : va_D A [(q4, .inl (cI, 61, .inl (upd fQ4 (fr : Int32).toNatClampNeg h))), (oQ, .inr (6, [.ref oC, .ref oH, .ref oK, .ref oE, .ref nq, .ref np, .ref nv, .ref q1, .ref q2, .ref q3, .ref q4, .int pr])), (q1, .inl (cI, 61, .inl f_32)), (q2, .inl (cI, 61, .inl f_33)), (q3, .inl (cI, 61, .inl f_34))] := hD
        obtain ⟨f_35, ef_35⟩ : ∃ g : Nat → Int32, g = upd fQ4 (fr : Int32).toNatClampNeg h := ⟨_, rfl⟩
        rw [← ef_35] at hP hD
        have hP9 := hP.sub (ws' := [(oQ, .inr (6, [.ref oC, .ref oH, .ref oK, .ref oE, .ref nq, .ref np, .ref nv, .ref q1, .ref q2, .ref q3, .ref q4, .int pr])), (q1, .inl (cI, 61, .inl f_32)), (q2, .inl (cI, 61, .inl f_33)), (q3, .inl (cI, 61, .inl f_34)), (q4, .inl (cI, 61, .inl f_35))]) [1, 2, 3, 4, 0] rfl
        have hD9 := hD.sub (ws' := [(oQ, .inr (6, [.ref oC, .ref oH, .ref oK, .ref oE, .ref nq, .ref np, .ref nv, .ref q1, .ref q2, .ref q3, .ref q4, .int pr])), (q1, .inl (cI, 61, .inl f_32)), (q2, .inl (cI, 61, .inl f_33)), (q3, .inl (cI, 61, .inl f_34)), (q4, .inl (cI, 61, .inl f_35))]) [1, 2, 3, 4, 0] (by decide) rfl
        rw [hQQ]
        exact W.vret hx hb hr (fun t ht hW => ⟨⟨(), rfl, trivial, ⟨f_32, f_33, f_34, f_35, by rw [ht]; exact hP9, hD9, ⟨x_22, x_23, by rw [← ex_4, ← ex_6]; first | (rw [if_pos (by omega)]; omega) | (rw [if_neg (by omega)]; omega), by rw [← ex_6]; omega, Or.inl ⟨Or.inr (ib_1 hf30_1 (by omega)), ef_32, ef_33, ef_34, ef_35⟩⟩⟩⟩, hS.F ht⟩) hS.2.2 dX6_offer_108
