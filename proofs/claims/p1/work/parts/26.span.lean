def f_can (fr n le sp : Int32) : Int32 := if fr < 0 then 0 else if 256 ≤ fr then 0 else if n < 1 then 0 else if 256 - fr < n then 0 else if sp < (-255) then 0 else if 255 < sp then 0 else if f_isL le = 0 then 0 else if sp = 0 ∧ ¬ n ≤ 1 then 0 else if ∀ j : Nat, j < n.toNatClampNeg → ¬ f_isL (le + nI j * sp) = 0 then 1 else 0
def f_span (fr n le sp : Int32) : Int32 := if f_can fr n le sp = 0 then (-1) else n
def f_spanc (cd fr n le sp : Int32) : Int32 := if cd = 4 then f_span fr n le sp else if cd = 5 then f_span fr n le sp else (-1)
/-- how many of the first n places are told -/
def p_occ (pb : Nat → Int32) : Nat → Nat
  | 0 => 0
  | n + 1 => p_occ pb n + (if pb n = (-1) then 0 else 1)
theorem p_occ0 : ∀ n, p_occ (fun _ => (-1)) n = 0
  | 0 => rfl
  | n + 1 => by rw [p_occ, p_occ0 n, if_pos rfl]
theorem p_occ_out (pb : Nat → Int32) (k : Nat) (v : Int32) : ∀ n, n ≤ k → p_occ (upd pb k v) n = p_occ pb n
  | 0, _ => rfl
  | n + 1, h => by rw [p_occ, p_occ, p_occ_out pb k v n (by omega), pk_un (by omega)]
theorem p_occ_upd (pb : Nat → Int32) (k : Nat) (v : Int32) : ∀ n, p_occ (upd pb k v) n ≤ p_occ pb n + 1
  | 0 => Nat.le_succ _
  | n + 1 => by
    by_cases e : n = k
    · have h1 := p_occ_out pb k v n (by omega)
      rw [p_occ, p_occ, h1]
      split <;> split <;> omega
    · have h1 := p_occ_upd pb k v n
      rw [p_occ, p_occ, pk_un e]
      omega
theorem p_free (pb : Nat → Int32) : ∀ n, p_occ pb n < n → ∃ q, q < n ∧ pb q = (-1)
  | 0, h => absurd h (Nat.not_lt_zero _)
  | n + 1, h => by
    by_cases e : pb n = (-1)
    · exact ⟨n, Nat.lt_succ_self n, e⟩
    · rw [p_occ, if_neg e] at h
      obtain ⟨q, h1, h2⟩ := p_free pb n (by omega)
      exact ⟨q, by omega, h2⟩
theorem p_full {x2 w : Int32} {pb : Nat → Int32} (h2 : x2 = ((w : Int32).toUInt32 >>> ((23 : Int32).toUInt32 &&& Int32.toUInt32 31)).toInt32) (hf : ∃ q, q < 512 ∧ pb q = (-1)) (hin : ∀ j : Nat, j < 512 → ¬ pb ((x2 + nI j) &&& 511).toNatClampNeg = (-1)) : False := by
  obtain ⟨q, hq, hpq⟩ := hf
  have e1 := pk_ushr w 23 23 (by decide)
  rw [← h2] at e1
  have hS : x2.toBitVec.toNat < 512 := by
    rw [e1]
    have := w.toBitVec.isLt
    omega
  obtain ⟨S, hS2⟩ : ∃ S, S = x2.toBitVec.toNat := ⟨_, rfl⟩
  rw [← hS2] at hS
  have ex : x2 = nI S := by
    apply Int32.toBitVec_inj.mp
    apply BitVec.eq_of_toNat_eq
    rw [← hS2, pk_tn (by omega)]
  refine hin ((q + 512 - S) % 512) (Nat.mod_lt _ (by decide)) ?_
  rw [ex, nI_add, pk_andN (by omega) 9 (by decide), nI_clamp (by omega)]
  have : (S + (q + 512 - S) % 512) % 2 ^ 9 = q := by omega
  rw [this]
  exact hpq
theorem p_nn {fr n x : Int32} (h1 : ¬ fr < 0) (h2 : ¬ n < 1) (hx : x = 256 - fr) (h3 : ¬ x < n) (h4 : ¬ 256 ≤ fr) : ∃ nn ff : Nat, 1 ≤ nn ∧ ff + nn ≤ 256 ∧ n = nI nn ∧ fr = nI ff := by
  have a1 : ¬ fr.toInt < 0 := fun z => h1 (Int32.lt_iff_toInt_lt.mpr z)
  have a2 : ¬ n.toInt < 1 := fun z => h2 (Int32.lt_iff_toInt_lt.mpr z)
  have a4 : ¬ (256 : Int) ≤ fr.toInt := fun z => h4 (Int32.le_iff_toInt_le.mpr z)
  obtain ⟨ff, hf, rfl⟩ := nI_of h1
  have hff : ff < 256 := by rw [nI_toInt hf] at a4; omega
  have hx2 : x = nI (256 - ff) := by rw [hx]; exact pk_sub (a := 256) (b := ff) (by omega)
  have a3 : n.toInt ≤ ((256 - ff : Nat) : Int) := by
    have := Int32.le_iff_toInt_le.mp (Int32.not_lt.mp h3)
    rw [hx2, nI_toInt (by omega)] at this
    exact this
  obtain ⟨nn, hn, rfl⟩ := nI_of (x := n) (fun z => by have := Int32.lt_iff_toInt_lt.mp z; have e0 : Int32.toInt 0 = 0 := rfl; omega)
  rw [nI_toInt hn] at a2 a3
  exact ⟨nn, ff, by omega, by omega, rfl, rfl⟩

set_option maxHeartbeats 4000000 in
set_option maxRecDepth 100000 in
theorem m_X10_placeFor (l : Launch) (dC : Nat → ClassId) (dI : Nat → Nat → Nat) (cI cS : ClassId) (sz : Nat) (o4 : Nat) (a41 : Nat) (a42 : Nat) (a43 : Nat) (le : Int32)  : Met l yX10_placeFor wsX10_placeFor ({ frames := 0, cells := 0, slots := 0, locals := 0 } : Room) (va_Pc [.ref o4, .int le] (fun U => U.heap.size = sz ∧ va_P (dC, dI) vwCl [(o4, .inr (10, [.ref a41, .ref a42, .ref a43, .int 0])), (a43, .inl (cI, 512, .inl (fun _ => (-1))))] U.heap ∧ va_K (dC, dI) vwCl [(cI, .int), (cS, .short)] U ∧ va_D (fun _ => True) [(o4, .inr (10, [.ref a41, .ref a42, .ref a43, .int 0])), (a43, .inl (cI, 512, .inl (fun _ => (-1))))])) (va_Qi (fun (r : Int32) (_ : Unit) => vp_in r 512) (fun _ t => va_P (dC, dI) vwCl [(o4, .inr (10, [.ref a41, .ref a42, .ref a43, .int 0])), (a43, .inl (cI, 512, .inl (fun _ => (-1))))] t.heap ∧ va_D (va_A [(o4, .inr (10, [.ref a41, .ref a42, .ref a43, .int 0])), (a43, .inl (cI, 512, .inl (fun _ => (-1))))] sz) [(o4, .inr (10, [.ref a41, .ref a42, .ref a43, .int 0])), (a43, .inl (cI, 512, .inl (fun _ => (-1))))]) (va_A [(o4, .inr (10, [.ref a41, .ref a42, .ref a43, .int 0])), (a43, .inl (cI, 512, .inl (fun _ => (-1))))] sz)) 0 0 (va_A [(o4, .inr (10, [.ref a41, .ref a42, .ref a43, .int 0])), (a43, .inl (cI, 512, .inl (fun _ => (-1))))] sz) := by
  refine Met.ofW (cc := cX10_placeFor) (maxL := 5) (ret := (some .int)) (by decide) rfl ?_
  intro p e s m args below meth c s₁ B hml hv
  obtain ⟨rfl, hsz, hP, hK, hD0⟩ := hv
  have hx := B.exec
  have hb := B.bytes
  have hr := B.returns
  have hts := atoms_spec (ws := wsX10_placeFor) B.pre
  have hown : s.vm.findClass RX10 = some m.cls := findClass_of_methodNamed B.named
  have hlocks := B.notSynchronized
  have in_X10 : ∀ w ∈ wsX100, w ∈ wsX10_placeFor := fun _ h => List.mem_cons_of_mem _ (List.mem_append_right _ (h))
  subst hsz
  have hD := hD0.self (sz := s.heap.size)
  generalize hAe : va_A [(o4, .inr (10, [.ref a41, .ref a42, .ref a43, .int 0])), (a43, .inl (cI, 512, .inl (fun _ => (-1))))] s.heap.size = A at hD ⊢
  have hA : ∀ q : Nat, s.heap.size ≤ q → A q := fun q h => by rw [← hAe]; exact Or.inr h
  have hS : va_S A s.heap s.heap [] := va_S.rf
  have hP : va_P (dC, dI) vwCl [(o4, .inr (10, [.ref a41, .ref a42, .ref a43, .int 0])), (a43, .inl (cI, 512, .inl (fun _ => (-1))))] s.heap := hP
  have hl := lv_entry ([.ref o4, .int le]) (n := 5) (Nat.le_of_ble_eq_true rfl)
  rw [lg_entry_eq]
  generalize (lg_sl ([.ref o4, .int le]) ++ List.replicate (5 - (lg_sl ([.ref o4, .int le])).length) Slot.unset).toArray = ls at hl ⊢
  have hl : lv_has ls 5 [(0, .ref o4), (1, .int le)] := hl
  refine lv_iload_n hx hb dX10_placeFor_0 rfl (lv_at hl 1 rfl) ?_
  refine lv_ldc hx hb hown (hts (.constant RX10 45 (-1640531535)) (List.mem_of_getElem? (i := 1) rfl)) dX10_placeFor_1 ?_
  refine lv_imul hx hb dX10_placeFor_3 ?_
  refine lv_topi (fun x_1 ex_1 => ?_)
  refine lv_bipush (v := 23) hx hb dX10_placeFor_4 (by decide) ?_
  obtain ⟨x_2, ex_2⟩ : ∃ v : Int32, v = ((x_1 : Int32).toUInt32 >>> ((23 : Int32).toUInt32 &&& Int32.toUInt32 31)).toInt32 := ⟨_, rfl⟩
  refine lv_iushr (v := x_2) hx hb dX10_placeFor_6 ex_2.symm ?_
  refine lv_istore_n (lv' := [(2, .int x_2), (0, .ref o4), (1, .int le)]) hx hb dX10_placeFor_7 rfl hl (by decide) rfl (fun ls hl => ?_)
  refine lv_iconst (v := 0) hx hb dX10_placeFor_8 (by decide) ?_
  refine lv_istore_n (lv' := [(3, .int 0), (2, .int x_2), (0, .ref o4), (1, .int le)]) hx hb dX10_placeFor_9 rfl hl (by decide) rfl (fun ls hl => ?_)
  refine lv_iload_n hx hb dX10_placeFor_10 rfl (lv_at hl 0 rfl) ?_
  refine lv_sipush (v := 512) hx hb dX10_placeFor_11 (by decide) ?_
  refine lv_icmp_ge (tgt := 57) hx hb dX10_placeFor_14 (by decide) (fun c_3 => absurd c_3 (by decide)) (fun c_3 => ?_)
  refine lv_iload_n hx hb dX10_placeFor_17 rfl (lv_at hl 1 rfl) ?_
  refine lv_iload_n hx hb dX10_placeFor_18 rfl (lv_at hl 0 rfl) ?_
  refine lv_iadd hx hb dX10_placeFor_19 ?_
  refine lv_topi (fun x_4 ex_4 => ?_)
  refine lv_sipush (v := 511) hx hb dX10_placeFor_20 (by decide) ?_
  refine lv_iand hx hb dX10_placeFor_23 ?_
  refine lv_topi (fun x_5 ex_5 => ?_)
  refine lv_istore (lv' := [(4, .int x_5), (3, .int 0), (2, .int x_2), (0, .ref o4), (1, .int le)]) hx hb dX10_placeFor_24 hl (by decide) rfl (fun ls hl => ?_)
  refine lv_aload_n hx hb dX10_placeFor_26 rfl (lv_at hl 3 rfl) ?_
  refine va_get (D := (dC, dI)) (ci := 10) (v := .ref a43) (C := RX10) (T := TX10) (N := 4) hx hb hts in_X10 hown hK hP 0 rfl rfl 2 (by decide) (hts (.fieldLink RX10 18 "TextMender$ToldCode" "placeByte" "[I") (List.mem_of_getElem? (i := 2) rfl)) (fun _ h9 => h9) rfl dX10_placeFor_27 ?_
  refine lv_iload hx hb dX10_placeFor_30 (lv_at hl 0 rfl) ?_
  refine va_iald hx hb hK hP 1 0 rfl rfl (by rw [ex_5]; exact pk_andIn _ 9 rfl (by decide)) dX10_placeFor_32 ?_
  refine k_i (y := (-1)) rfl ?_
  refine lv_iconst (v := (-1)) hx hb dX10_placeFor_33 (by decide) ?_
  refine lv_icmp_eq (tgt := 48) hx hb dX10_placeFor_34 (by decide) (fun c_6 => ?_) (fun c_6 => absurd (by decide) c_6)
  refine lv_iload hx hb dX10_placeFor_48 (lv_at hl 0 rfl) ?_
  have hP9 := hP.sub (ws' := [(o4, .inr (10, [.ref a41, .ref a42, .ref a43, .int 0])), (a43, .inl (cI, 512, .inl (fun _ => (-1))))]) [0, 1] rfl
  have hD9 := hD.sub (ws' := [(o4, .inr (10, [.ref a41, .ref a42, .ref a43, .int 0])), (a43, .inl (cI, 512, .inl (fun _ => (-1))))]) [0, 1] (by decide) rfl
  exact W.iret (v := x_5) hx hb hr (fun t ht hW => ⟨⟨x_5, (), rfl, by rw [ex_5]; exact pk_andIn _ 9 rfl (by decide), by rw [ht]; exact hP9, hD9⟩, hS.F ht⟩) (hS.2.2) dX10_placeFor_50

set_option maxHeartbeats 4000000 in
set_option maxRecDepth 100000 in
theorem m_X10_byteFor (l : Launch) (dC : Nat → ClassId) (dI : Nat → Nat → Nat) (cI cS : ClassId) (sz : Nat) (o4 : Nat) (a41 : Nat) (a42 : Nat) (a43 : Nat) (le : Int32)  : Met l yX10_byteFor wsX10_byteFor ({ frames := 1, cells := 0, slots := 0, locals := 24 } : Room) (va_Pc [.ref o4, .int le] (fun U => U.heap.size = sz ∧ va_P (dC, dI) vwCl [(o4, .inr (10, [.ref a41, .ref a42, .ref a43, .int 0])), (a43, .inl (cI, 512, .inl (fun _ => (-1))))] U.heap ∧ va_K (dC, dI) vwCl [(cI, .int), (cS, .short)] U ∧ va_D (fun _ => True) [(o4, .inr (10, [.ref a41, .ref a42, .ref a43, .int 0])), (a43, .inl (cI, 512, .inl (fun _ => (-1))))])) (va_Qi (fun (r : Int32) (_ : Unit) => r = (-1)) (fun _ t => va_P (dC, dI) vwCl [(o4, .inr (10, [.ref a41, .ref a42, .ref a43, .int 0])), (a43, .inl (cI, 512, .inl (fun _ => (-1))))] t.heap ∧ va_D (va_A [(o4, .inr (10, [.ref a41, .ref a42, .ref a43, .int 0])), (a43, .inl (cI, 512, .inl (fun _ => (-1))))] sz) [(o4, .inr (10, [.ref a41, .ref a42, .ref a43, .int 0])), (a43, .inl (cI, 512, .inl (fun _ => (-1))))]) (va_A [(o4, .inr (10, [.ref a41, .ref a42, .ref a43, .int 0])), (a43, .inl (cI, 512, .inl (fun _ => (-1))))] sz)) 0 0 (va_A [(o4, .inr (10, [.ref a41, .ref a42, .ref a43, .int 0])), (a43, .inl (cI, 512, .inl (fun _ => (-1))))] sz) := by
  refine Met.ofW (cc := cX10_byteFor) (maxL := 3) (ret := (some .int)) (by decide) rfl ?_
  intro p e s m args below meth c s₁ B hml hv
  obtain ⟨rfl, hsz, hP, hK, hD0⟩ := hv
  have hx := B.exec
  have hb := B.bytes
  have hr := B.returns
  have hts := atoms_spec (ws := wsX10_byteFor) B.pre
  have hown : s.vm.findClass RX10 = some m.cls := findClass_of_methodNamed B.named
  have hlocks := B.notSynchronized
  have in_X10 : ∀ w ∈ wsX100, w ∈ wsX10_byteFor := fun _ h => List.mem_cons_of_mem _ (List.mem_append_right _ (h))
  subst hsz
  have hD := hD0.self (sz := s.heap.size)
  generalize hAe : va_A [(o4, .inr (10, [.ref a41, .ref a42, .ref a43, .int 0])), (a43, .inl (cI, 512, .inl (fun _ => (-1))))] s.heap.size = A at hD ⊢
  have hA : ∀ q : Nat, s.heap.size ≤ q → A q := fun q h => by rw [← hAe]; exact Or.inr h
  have hS : va_S A s.heap s.heap [] := va_S.rf
  have hP : va_P (dC, dI) vwCl [(o4, .inr (10, [.ref a41, .ref a42, .ref a43, .int 0])), (a43, .inl (cI, 512, .inl (fun _ => (-1))))] s.heap := hP
  have hl := lv_entry ([.ref o4, .int le]) (n := 3) (Nat.le_of_ble_eq_true rfl)
  rw [lg_entry_eq]
  generalize (lg_sl ([.ref o4, .int le]) ++ List.replicate (3 - (lg_sl ([.ref o4, .int le])).length) Slot.unset).toArray = ls at hl ⊢
  have hl : lv_has ls 3 [(0, .ref o4), (1, .int le)] := hl
  refine lv_aload_n hx hb dX10_byteFor_0 rfl (lv_at hl 0 rfl) ?_
  refine lv_iload_n hx hb dX10_byteFor_1 rfl (lv_at hl 1 rfl) ?_
  have hPc := hP.sub (ws' := [(o4, .inr (10, [.ref a41, .ref a42, .ref a43, .int 0])), (a43, .inl (cI, 512, .inl (fun _ => (-1))))]) [0, 1] rfl
  have hDc := hD.sub (ws' := [(o4, .inr (10, [.ref a41, .ref a42, .ref a43, .int 0])), (a43, .inl (cI, 512, .inl (fun _ => (-1))))]) [0, 1] (by decide) rfl
  have hFc := va_free (wc := [(o4, .inr (10, [.ref a41, .ref a42, .ref a43, .int 0])), (a43, .inl (cI, 512, .inl (fun _ => (-1))))]) hD hS hA [0, 1] rfl
  refine va_calli (va_runV (As := [.int le]) (rest := []) ⟨hx, hb, hml, hown, hts⟩ (m_X10_placeFor l dC dI cI cS s.heap.size o4 a41 a42 a43 le ) (cwV 1 hts gX10_byteFor_X10_placeFor rfl rfl rfl (by decide +kernel) ⟨Nat.le_of_ble_eq_true rfl, Nat.le_of_ble_eq_true rfl⟩) ⟨fun a U g mk q => by obtain ⟨q0, q1, qP, qK, qD⟩ := q; exact ⟨q0, q1, qP, va_K.moved (u := U) (U := U.calling g mk a) (Vm.Alike.refl U.vm) qK, qD⟩, va_recv hK hPc (ci := 10) (q0 := 0) rfl rfl, fun U hU hW => ⟨rfl, by rw [hU], by rw [hU]; exact hPc, va_K.moved hW.alike hK, hDc.weaken (fun _ _ _ _ => trivial)⟩⟩ rfl rfl hl.1 rfl (lv_room (Nat.le_of_ble_eq_true rfl)) dX10_byteFor_2 ⟨Nat.le_of_ble_eq_true rfl, Nat.le_of_ble_eq_true rfl⟩) hS (fun q _ h => hFc q h) hFc (fun r_1 u t H1 locs ht hvm hw hB hz1 hk1 hS => ?_)
  obtain ⟨hP1, hD1⟩ := hB
  rw [ht] at hP1
  obtain ⟨hP, hD⟩ := va_join (wr := []) (w1 := [(o4, .inr (10, [.ref a41, .ref a42, .ref a43, .int 0])), (a43, .inl (cI, 512, .inl (fun _ => (-1))))]) hP hD [0, 1] [] rfl rfl (by decide) (by decide) hk1 hFc hP1 hD1
  generalize H1 = H at hP hS ⊢
  have hP : va_P (dC, dI) vwCl [(o4, .inr (10, [.ref a41, .ref a42, .ref a43, .int 0])), (a43, .inl (cI, 512, .inl (fun _ => (-1))))] H := hP
  have hD : va_D A [(o4, .inr (10, [.ref a41, .ref a42, .ref a43, .int 0])), (a43, .inl (cI, 512, .inl (fun _ => (-1))))] := hD
  have hw_1 := hw
  refine lv_istore_n (lv' := [(2, .int r_1), (0, .ref o4), (1, .int le)]) hx hb dX10_byteFor_5 rfl hl (by decide) rfl (fun ls hl => ?_)
  refine lv_iload_n hx hb dX10_byteFor_6 rfl (lv_at hl 0 rfl) ?_
  refine lv_iconst (v := (-1)) hx hb dX10_byteFor_7 (by decide) ?_
  refine lv_icmp_ne (tgt := 15) hx hb dX10_byteFor_8 (by decide) (fun c_2 => ?_) (fun c_2 => absurd c_2 (p_inne hw_1))
  refine lv_aload_n hx hb dX10_byteFor_15 rfl (lv_at hl 1 rfl) ?_
  refine va_get (D := (dC, dI)) (ci := 10) (v := .ref a43) (C := RX10) (T := TX10) (N := 4) hx hb hts in_X10 hown hK hP 0 rfl rfl 2 (by decide) (hts (.fieldLink RX10 18 "TextMender$ToldCode" "placeByte" "[I") (List.mem_of_getElem? (i := 1) rfl)) (fun _ h9 => h9) rfl dX10_byteFor_16 ?_
  refine lv_iload_n hx hb dX10_byteFor_19 rfl (lv_at hl 0 rfl) ?_
  refine va_iald hx hb hK hP 1 0 rfl rfl hw_1 dX10_byteFor_20 ?_
  refine k_i (y := (-1)) rfl ?_
  have hP9 := hP.sub (ws' := [(o4, .inr (10, [.ref a41, .ref a42, .ref a43, .int 0])), (a43, .inl (cI, 512, .inl (fun _ => (-1))))]) [0, 1] rfl
  have hD9 := hD.sub (ws' := [(o4, .inr (10, [.ref a41, .ref a42, .ref a43, .int 0])), (a43, .inl (cI, 512, .inl (fun _ => (-1))))]) [0, 1] (by decide) rfl
  exact W.iret (v := (-1)) hx hb hr (fun t ht hW => ⟨⟨(-1), (), rfl, rfl, by rw [ht]; exact hP9, hD9⟩, hS.F ht⟩) (hS.2.2) dX10_byteFor_21

set_option maxHeartbeats 4000000 in
set_option maxRecDepth 100000 in
theorem m_X10_canTake (l : Launch) (dC : Nat → ClassId) (dI : Nat → Nat → Nat) (cI cS : ClassId) (sz : Nat) (o4 : Nat) (a41 : Nat) (a42 : Nat) (a43 : Nat) (fr : Int32) (n : Int32) (le : Int32) (sp : Int32)  : Met l yX10_canTake wsX10_canTake ({ frames := 2, cells := 0, slots := 0, locals := 46 } : Room) (va_Pc [.ref o4, .int fr, .int n, .int le, .int sp] (fun U => U.heap.size = sz ∧ va_P (dC, dI) vwCl [(o4, .inr (10, [.ref a41, .ref a42, .ref a43, .int 0])), (a41, .inl (cI, 256, .inl (fun _ => (-1)))), (a43, .inl (cI, 512, .inl (fun _ => (-1))))] U.heap ∧ va_K (dC, dI) vwCl [(cI, .int), (cS, .short)] U ∧ va_D (fun _ => True) [(o4, .inr (10, [.ref a41, .ref a42, .ref a43, .int 0])), (a41, .inl (cI, 256, .inl (fun _ => (-1)))), (a43, .inl (cI, 512, .inl (fun _ => (-1))))] ∧ va_Nw (.methodLinkNest RX10 35 yX11_isLetter "TextMender") U)) (va_Qi (fun (r : Int32) (_ : Unit) => r = f_can fr n le sp) (fun _ t => va_P (dC, dI) vwCl [(o4, .inr (10, [.ref a41, .ref a42, .ref a43, .int 0])), (a41, .inl (cI, 256, .inl (fun _ => (-1)))), (a43, .inl (cI, 512, .inl (fun _ => (-1))))] t.heap ∧ va_D (va_A [(o4, .inr (10, [.ref a41, .ref a42, .ref a43, .int 0])), (a41, .inl (cI, 256, .inl (fun _ => (-1)))), (a43, .inl (cI, 512, .inl (fun _ => (-1))))] sz) [(o4, .inr (10, [.ref a41, .ref a42, .ref a43, .int 0])), (a41, .inl (cI, 256, .inl (fun _ => (-1)))), (a43, .inl (cI, 512, .inl (fun _ => (-1))))]) (va_A [(o4, .inr (10, [.ref a41, .ref a42, .ref a43, .int 0])), (a41, .inl (cI, 256, .inl (fun _ => (-1)))), (a43, .inl (cI, 512, .inl (fun _ => (-1))))] sz)) 0 0 (va_A [(o4, .inr (10, [.ref a41, .ref a42, .ref a43, .int 0])), (a41, .inl (cI, 256, .inl (fun _ => (-1)))), (a43, .inl (cI, 512, .inl (fun _ => (-1))))] sz) := by
  refine Met.ofW (cc := cX10_canTake) (maxL := 8) (ret := (some .boolean)) (by decide) rfl ?_
  intro p e s m args below meth c s₁ B hml hv
  obtain ⟨rfl, hsz, hP, hK, hD0, hN35⟩ := hv
  have hx := B.exec
  have hb := B.bytes
  have hr := B.returns
  have hts := atoms_spec (ws := wsX10_canTake) B.pre
  have hown : s.vm.findClass RX10 = some m.cls := findClass_of_methodNamed B.named
  have hlocks := B.notSynchronized
  subst hsz
  have hD := hD0.self (sz := s.heap.size)
  generalize hAe : va_A [(o4, .inr (10, [.ref a41, .ref a42, .ref a43, .int 0])), (a41, .inl (cI, 256, .inl (fun _ => (-1)))), (a43, .inl (cI, 512, .inl (fun _ => (-1))))] s.heap.size = A at hD ⊢
  have hA : ∀ q : Nat, s.heap.size ≤ q → A q := fun q h => by rw [← hAe]; exact Or.inr h
  have hS : va_S A s.heap s.heap [] := va_S.rf
  have hP : va_P (dC, dI) vwCl [(o4, .inr (10, [.ref a41, .ref a42, .ref a43, .int 0])), (a41, .inl (cI, 256, .inl (fun _ => (-1)))), (a43, .inl (cI, 512, .inl (fun _ => (-1))))] s.heap := hP
  have hl := lv_entry ([.ref o4, .int fr, .int n, .int le, .int sp]) (n := 8) (Nat.le_of_ble_eq_true rfl)
  rw [lg_entry_eq]
  generalize (lg_sl ([.ref o4, .int fr, .int n, .int le, .int sp]) ++ List.replicate (8 - (lg_sl ([.ref o4, .int fr, .int n, .int le, .int sp])).length) Slot.unset).toArray = ls at hl ⊢
  have hl : lv_has ls 8 [(0, .ref o4), (1, .int fr), (2, .int n), (3, .int le), (4, .int sp)] := hl
  refine lv_iload_n hx hb dX10_canTake_0 rfl (lv_at hl 1 rfl) ?_
  refine lv_if_lt (tgt := 29) hx hb dX10_canTake_1 (by decide) (fun c_1 => ?_) (fun c_1 => ?_)
  · refine lv_iconst (v := 0) hx hb dX10_canTake_29 (by decide) ?_
    refine lv_istore (lv' := [(5, .int 0), (0, .ref o4), (1, .int fr), (2, .int n), (3, .int le), (4, .int sp)]) hx hb dX10_canTake_30 hl (by decide) rfl (fun ls hl => ?_)
    refine lv_iload hx hb dX10_canTake_32 (lv_at hl 0 rfl) ?_
    refine lv_if_eq (tgt := 60) hx hb dX10_canTake_34 (by decide) (fun c_2 => ?_) (fun c_2 => absurd (by decide) c_2)
    refine lv_iconst (v := 0) hx hb dX10_canTake_60 (by decide) ?_
    have hP9 := hP.sub (ws' := [(o4, .inr (10, [.ref a41, .ref a42, .ref a43, .int 0])), (a41, .inl (cI, 256, .inl (fun _ => (-1)))), (a43, .inl (cI, 512, .inl (fun _ => (-1))))]) [0, 1, 2] rfl
    have hD9 := hD.sub (ws' := [(o4, .inr (10, [.ref a41, .ref a42, .ref a43, .int 0])), (a41, .inl (cI, 256, .inl (fun _ => (-1)))), (a43, .inl (cI, 512, .inl (fun _ => (-1))))]) [0, 1, 2] (by decide) rfl
    exact W.zret (v := 0) (ty := .boolean) hx hb hr (rfl) (fun t ht hW => ⟨⟨0, (), rfl, by simp [f_can, c_1], by rw [ht]; exact hP9, hD9⟩, hS.F ht⟩) (hS.2.2) dX10_canTake_61
  · refine lv_iload_n hx hb dX10_canTake_4 rfl (lv_at hl 1 rfl) ?_
    refine lv_sipush (v := 256) hx hb dX10_canTake_5 (by decide) ?_
    refine lv_icmp_ge (tgt := 29) hx hb dX10_canTake_8 (by decide) (fun c_3 => ?_) (fun c_3 => ?_)
    · refine lv_iconst (v := 0) hx hb dX10_canTake_29 (by decide) ?_
      refine lv_istore (lv' := [(5, .int 0), (0, .ref o4), (1, .int fr), (2, .int n), (3, .int le), (4, .int sp)]) hx hb dX10_canTake_30 hl (by decide) rfl (fun ls hl => ?_)
      refine lv_iload hx hb dX10_canTake_32 (lv_at hl 0 rfl) ?_
      refine lv_if_eq (tgt := 60) hx hb dX10_canTake_34 (by decide) (fun c_4 => ?_) (fun c_4 => absurd (by decide) c_4)
      refine lv_iconst (v := 0) hx hb dX10_canTake_60 (by decide) ?_
      have hP9 := hP.sub (ws' := [(o4, .inr (10, [.ref a41, .ref a42, .ref a43, .int 0])), (a41, .inl (cI, 256, .inl (fun _ => (-1)))), (a43, .inl (cI, 512, .inl (fun _ => (-1))))]) [0, 1, 2] rfl
      have hD9 := hD.sub (ws' := [(o4, .inr (10, [.ref a41, .ref a42, .ref a43, .int 0])), (a41, .inl (cI, 256, .inl (fun _ => (-1)))), (a43, .inl (cI, 512, .inl (fun _ => (-1))))]) [0, 1, 2] (by decide) rfl
      exact W.zret (v := 0) (ty := .boolean) hx hb hr (rfl) (fun t ht hW => ⟨⟨0, (), rfl, by simp [f_can, c_1, c_3], by rw [ht]; exact hP9, hD9⟩, hS.F ht⟩) (hS.2.2) dX10_canTake_61
    · refine lv_iload_n hx hb dX10_canTake_11 rfl (lv_at hl 2 rfl) ?_
      refine lv_iconst (v := 1) hx hb dX10_canTake_12 (by decide) ?_
      refine lv_icmp_lt (tgt := 29) hx hb dX10_canTake_13 (by decide) (fun c_5 => ?_) (fun c_5 => ?_)
      · refine lv_iconst (v := 0) hx hb dX10_canTake_29 (by decide) ?_
        refine lv_istore (lv' := [(5, .int 0), (0, .ref o4), (1, .int fr), (2, .int n), (3, .int le), (4, .int sp)]) hx hb dX10_canTake_30 hl (by decide) rfl (fun ls hl => ?_)
        refine lv_iload hx hb dX10_canTake_32 (lv_at hl 0 rfl) ?_
        refine lv_if_eq (tgt := 60) hx hb dX10_canTake_34 (by decide) (fun c_6 => ?_) (fun c_6 => absurd (by decide) c_6)
        refine lv_iconst (v := 0) hx hb dX10_canTake_60 (by decide) ?_
        have hP9 := hP.sub (ws' := [(o4, .inr (10, [.ref a41, .ref a42, .ref a43, .int 0])), (a41, .inl (cI, 256, .inl (fun _ => (-1)))), (a43, .inl (cI, 512, .inl (fun _ => (-1))))]) [0, 1, 2] rfl
        have hD9 := hD.sub (ws' := [(o4, .inr (10, [.ref a41, .ref a42, .ref a43, .int 0])), (a41, .inl (cI, 256, .inl (fun _ => (-1)))), (a43, .inl (cI, 512, .inl (fun _ => (-1))))]) [0, 1, 2] (by decide) rfl
        exact W.zret (v := 0) (ty := .boolean) hx hb hr (rfl) (fun t ht hW => ⟨⟨0, (), rfl, by simp [f_can, c_1, c_3, c_5], by rw [ht]; exact hP9, hD9⟩, hS.F ht⟩) (hS.2.2) dX10_canTake_61
      · refine lv_iload_n hx hb dX10_canTake_16 rfl (lv_at hl 2 rfl) ?_
        refine lv_sipush (v := 256) hx hb dX10_canTake_17 (by decide) ?_
        refine lv_iload_n hx hb dX10_canTake_20 rfl (lv_at hl 1 rfl) ?_
        refine lv_isub hx hb dX10_canTake_21 ?_
        refine lv_topi (fun x_7 ex_7 => ?_)
        refine lv_icmp_gt (tgt := 29) hx hb dX10_canTake_22 (by decide) (fun c_8 => ?_) (fun c_8 => ?_)
        · refine lv_iconst (v := 0) hx hb dX10_canTake_29 (by decide) ?_
          refine lv_istore (lv' := [(5, .int 0), (0, .ref o4), (1, .int fr), (2, .int n), (3, .int le), (4, .int sp)]) hx hb dX10_canTake_30 hl (by decide) rfl (fun ls hl => ?_)
          refine lv_iload hx hb dX10_canTake_32 (lv_at hl 0 rfl) ?_
          refine lv_if_eq (tgt := 60) hx hb dX10_canTake_34 (by decide) (fun c_9 => ?_) (fun c_9 => absurd (by decide) c_9)
          refine lv_iconst (v := 0) hx hb dX10_canTake_60 (by decide) ?_
          have hP9 := hP.sub (ws' := [(o4, .inr (10, [.ref a41, .ref a42, .ref a43, .int 0])), (a41, .inl (cI, 256, .inl (fun _ => (-1)))), (a43, .inl (cI, 512, .inl (fun _ => (-1))))]) [0, 1, 2] rfl
          have hD9 := hD.sub (ws' := [(o4, .inr (10, [.ref a41, .ref a42, .ref a43, .int 0])), (a41, .inl (cI, 256, .inl (fun _ => (-1)))), (a43, .inl (cI, 512, .inl (fun _ => (-1))))]) [0, 1, 2] (by decide) rfl
          exact W.zret (v := 0) (ty := .boolean) hx hb hr (rfl) (fun t ht hW => ⟨⟨0, (), rfl, by simp [f_can, ← ex_7, c_1, c_3, c_5, c_8], by rw [ht]; exact hP9, hD9⟩, hS.F ht⟩) (hS.2.2) dX10_canTake_61
        · refine lv_iconst (v := 1) hx hb dX10_canTake_25 (by decide) ?_
          refine lv_goto (tgt := 30) hx hb dX10_canTake_26 (by decide) ?_
          refine lv_istore (lv' := [(5, .int 1), (0, .ref o4), (1, .int fr), (2, .int n), (3, .int le), (4, .int sp)]) hx hb dX10_canTake_30 hl (by decide) rfl (fun ls hl => ?_)
          refine lv_iload hx hb dX10_canTake_32 (lv_at hl 0 rfl) ?_
          refine lv_if_eq (tgt := 60) hx hb dX10_canTake_34 (by decide) (fun c_10 => absurd c_10 (by decide)) (fun c_10 => ?_)
          refine lv_iload hx hb dX10_canTake_37 (lv_at hl 5 rfl) ?_
          refine lv_sipush (v := (-255)) hx hb dX10_canTake_39 (by decide) ?_
          refine lv_icmp_lt (tgt := 60) hx hb dX10_canTake_42 (by decide) (fun c_11 => ?_) (fun c_11 => ?_)
          · refine lv_iconst (v := 0) hx hb dX10_canTake_60 (by decide) ?_
            have hP9 := hP.sub (ws' := [(o4, .inr (10, [.ref a41, .ref a42, .ref a43, .int 0])), (a41, .inl (cI, 256, .inl (fun _ => (-1)))), (a43, .inl (cI, 512, .inl (fun _ => (-1))))]) [0, 1, 2] rfl
            have hD9 := hD.sub (ws' := [(o4, .inr (10, [.ref a41, .ref a42, .ref a43, .int 0])), (a41, .inl (cI, 256, .inl (fun _ => (-1)))), (a43, .inl (cI, 512, .inl (fun _ => (-1))))]) [0, 1, 2] (by decide) rfl
            exact W.zret (v := 0) (ty := .boolean) hx hb hr (rfl) (fun t ht hW => ⟨⟨0, (), rfl, by simp [f_can, ← ex_7, c_1, c_3, c_5, c_8, c_11], by rw [ht]; exact hP9, hD9⟩, hS.F ht⟩) (hS.2.2) dX10_canTake_61
          · refine lv_iload hx hb dX10_canTake_45 (lv_at hl 5 rfl) ?_
            refine lv_sipush (v := 255) hx hb dX10_canTake_47 (by decide) ?_
            refine lv_icmp_gt (tgt := 60) hx hb dX10_canTake_50 (by decide) (fun c_12 => ?_) (fun c_12 => ?_)
            · refine lv_iconst (v := 0) hx hb dX10_canTake_60 (by decide) ?_
              have hP9 := hP.sub (ws' := [(o4, .inr (10, [.ref a41, .ref a42, .ref a43, .int 0])), (a41, .inl (cI, 256, .inl (fun _ => (-1)))), (a43, .inl (cI, 512, .inl (fun _ => (-1))))]) [0, 1, 2] rfl
              have hD9 := hD.sub (ws' := [(o4, .inr (10, [.ref a41, .ref a42, .ref a43, .int 0])), (a41, .inl (cI, 256, .inl (fun _ => (-1)))), (a43, .inl (cI, 512, .inl (fun _ => (-1))))]) [0, 1, 2] (by decide) rfl
              exact W.zret (v := 0) (ty := .boolean) hx hb hr (rfl) (fun t ht hW => ⟨⟨0, (), rfl, by simp [f_can, ← ex_7, c_1, c_3, c_5, c_8, c_11, c_12], by rw [ht]; exact hP9, hD9⟩, hS.F ht⟩) (hS.2.2) dX10_canTake_61
            · refine lv_iload_n hx hb dX10_canTake_53 rfl (lv_at hl 4 rfl) ?_
              have hPc := hP.sub (ws' := []) [] rfl
              have hDc := hD.sub (ws' := []) [] (by decide) rfl
              have hFc := va_free (wc := []) hD hS hA [] rfl
              refine va_calli (va_runSN (As := [.int le]) (rest := []) ⟨hx, hb, hml, hown, hts⟩ (m_X11_isLetter l dC dI cI cS s.heap.size le ) ⟨va_cnB 1 hts gX10_canTake_X11_isLetter_n35 rfl rfl rfl hN35 (hts (.initialized RX11) (List.mem_of_getElem? (i := 2) rfl)) (by decide +kernel) ⟨Nat.le_of_ble_eq_true rfl, Nat.le_of_ble_eq_true rfl⟩, (hts (.static yX11_isLetter) (List.mem_of_getElem? (i := 1) rfl)), trivial⟩ ⟨fun a U g mk q => by obtain ⟨q0, q1, qP, qK, qD⟩ := q; exact ⟨q0, q1, qP, va_K.moved (u := U) (U := U.calling g mk a) (Vm.Alike.refl U.vm) qK, qD⟩, fun U hU hW => ⟨rfl, by rw [hU], by rw [hU]; exact hPc, va_K.moved hW.alike hK, hDc.weaken (fun _ _ _ _ => trivial)⟩⟩ rfl rfl hl.1 rfl (lv_room (Nat.le_of_ble_eq_true rfl)) dX10_canTake_54 ⟨Nat.le_of_ble_eq_true rfl, Nat.le_of_ble_eq_true rfl⟩) hS (fun q _ h => hFc q h) hFc (fun r_13 u t H1 locs ht hvm hw hB hz1 hk1 hS => ?_)
              obtain ⟨hP1, hD1⟩ := hB
              rw [ht] at hP1
              obtain ⟨hP, hD⟩ := va_join (wr := [(o4, .inr (10, [.ref a41, .ref a42, .ref a43, .int 0])), (a41, .inl (cI, 256, .inl (fun _ => (-1)))), (a43, .inl (cI, 512, .inl (fun _ => (-1))))]) (w1 := []) hP hD [] [0, 1, 2] rfl rfl (by decide) (by decide) hk1 hFc hP1 hD1
              generalize H1 = H at hP hS ⊢
              have hP : va_P (dC, dI) vwCl [(o4, .inr (10, [.ref a41, .ref a42, .ref a43, .int 0])), (a41, .inl (cI, 256, .inl (fun _ => (-1)))), (a43, .inl (cI, 512, .inl (fun _ => (-1))))] H := hP
              have hD : va_D A [(o4, .inr (10, [.ref a41, .ref a42, .ref a43, .int 0])), (a41, .inl (cI, 256, .inl (fun _ => (-1)))), (a43, .inl (cI, 512, .inl (fun _ => (-1))))] := hD
              rw [hw]
              refine lv_if_ne (tgt := 62) hx hb dX10_canTake_57 (by decide) (fun c_14 => ?_) (fun c_14 => ?_)
              · refine lv_iload hx hb dX10_canTake_62 (lv_at hl 5 rfl) ?_
                refine lv_if_ne (tgt := 74) hx hb dX10_canTake_64 (by decide) (fun c_15 => ?_) (fun c_15 => ?_)
                · refine lv_iconst (v := 0) hx hb dX10_canTake_74 (by decide) ?_
                  refine lv_istore (lv' := [(6, .int 0), (5, .int 1), (0, .ref o4), (1, .int fr), (2, .int n), (3, .int le), (4, .int sp)]) hx hb dX10_canTake_75 hl (by decide) rfl (fun ls hl => ?_)
                  obtain ⟨nn, ff, hn1, hn2, hn, hff⟩ := p_nn c_1 c_5 ex_7 c_8 c_3
                  have LOOP_77 : ∀ (k_77 i_77 : Nat) (xc_77 : Int32)  (H : Heap) (locs : List Loc) (ls : Array Slot), i_77 + k_77 = nn → xc_77 = nI i_77 →  (∀ j, j < i_77 → ¬ f_isL (le + nI j * sp) = 0) → va_P (dC, dI) vwCl [(o4, .inr (10, [.ref a41, .ref a42, .ref a43, .int 0])), (a41, .inl (cI, 256, .inl (fun _ => (-1)))), (a43, .inl (cI, 512, .inl (fun _ => (-1))))] H → va_D A [(o4, .inr (10, [.ref a41, .ref a42, .ref a43, .int 0])), (a41, .inl (cI, 256, .inl (fun _ => (-1)))), (a43, .inl (cI, 512, .inl (fun _ => (-1))))] → va_S A s.heap H locs → lv_has ls 8 [(6, .int xc_77), (0, .ref o4), (1, .int fr), (2, .int n), (3, .int le), (4, .int sp)] → W p l e (headSpec wsX10_canTake ({ frames := 2, cells := 0, slots := 0, locals := 46 } : Room)).room s m ([.ref o4, .int fr, .int n, .int le, .int sp] : List Value).toArray below meth c H locs 0 0 (MQ below (va_Qi (fun (r : Int32) (_ : Unit) => r = f_can fr n le sp) (fun _ t => va_P (dC, dI) vwCl [(o4, .inr (10, [.ref a41, .ref a42, .ref a43, .int 0])), (a41, .inl (cI, 256, .inl (fun _ => (-1)))), (a43, .inl (cI, 512, .inl (fun _ => (-1))))] t.heap ∧ va_D A [(o4, .inr (10, [.ref a41, .ref a42, .ref a43, .int 0])), (a41, .inl (cI, 256, .inl (fun _ => (-1)))), (a43, .inl (cI, 512, .inl (fun _ => (-1))))]) A) ([.ref o4, .int fr, .int n, .int le, .int sp] : List Value).toArray s 0 0 A) (F0 m 77 ls []) := by
                    intro k_77
                    induction k_77 with
                    | zero =>
                      intro i_77 xc_77  H locs ls hi_77 hxc_77  hok hP hD hS hl
                      have hi2_77 : i_77 = nn := by omega
                      refine lv_iload hx hb dX10_canTake_77 (lv_at hl 0 rfl) ?_
                      refine lv_iload_n hx hb dX10_canTake_79 rfl (lv_at hl 3 rfl) ?_
                      refine lv_icmp_ge (tgt := 130) hx hb dX10_canTake_80 (by decide) (fun c_16 => ?_) (fun c_16 => absurd (by rw [hxc_77, hn]; exact nI_le (a := nn) (b := i_77) (by omega) (by rw [hi2_77]; exact (by omega))) c_16)
                      refine lv_iconst (v := 1) hx hb dX10_canTake_130 (by decide) ?_
                      have hP9 := hP.sub (ws' := [(o4, .inr (10, [.ref a41, .ref a42, .ref a43, .int 0])), (a41, .inl (cI, 256, .inl (fun _ => (-1)))), (a43, .inl (cI, 512, .inl (fun _ => (-1))))]) [0, 1, 2] rfl
                      have hD9 := hD.sub (ws' := [(o4, .inr (10, [.ref a41, .ref a42, .ref a43, .int 0])), (a41, .inl (cI, 256, .inl (fun _ => (-1)))), (a43, .inl (cI, 512, .inl (fun _ => (-1))))]) [0, 1, 2] (by decide) rfl
                      exact W.zret (v := 1) (ty := .boolean) hx hb hr (rfl) (fun t ht hW => ⟨⟨1, (), rfl, by rw [f_can, if_neg c_1, if_neg c_3, if_neg c_5, if_neg (show ¬ 256 - fr < n by rw [← ex_7]; exact c_8), if_neg c_11, if_neg c_12, if_neg c_14, if_neg (fun h => c_15 h.1), if_pos (fun j hj => hok j (by rw [hn, nI_clamp (by omega)] at hj; omega))], by rw [ht]; exact hP9, hD9⟩, hS.F ht⟩) (hS.2.2) dX10_canTake_131
                    | succ k_77 ih_77 =>
                      intro i_77 xc_77  H locs ls hi_77 hxc_77  hok hP hD hS hl
                      refine lv_iload hx hb dX10_canTake_77 (lv_at hl 0 rfl) ?_
                      refine lv_iload_n hx hb dX10_canTake_79 rfl (lv_at hl 3 rfl) ?_
                      refine lv_icmp_ge (tgt := 130) hx hb dX10_canTake_80 (by decide) (fun c_17 => absurd c_17 (by rw [hxc_77, hn]; exact nI_ge (a := i_77) (b := nn) (by omega) (by omega))) (fun c_17 => ?_)
                      refine lv_iload_n hx hb dX10_canTake_83 rfl (lv_at hl 4 rfl) ?_
                      refine lv_iload hx hb dX10_canTake_84 (lv_at hl 0 rfl) ?_
                      refine lv_iload hx hb dX10_canTake_86 (lv_at hl 5 rfl) ?_
                      refine lv_imul hx hb dX10_canTake_88 ?_
                      refine lv_topi (fun x_18 ex_18 => ?_)
                      refine lv_iadd hx hb dX10_canTake_89 ?_
                      refine lv_topi (fun x_19 ex_19 => ?_)
                      refine lv_istore (lv' := [(7, .int x_19), (6, .int xc_77), (0, .ref o4), (1, .int fr), (2, .int n), (3, .int le), (4, .int sp)]) hx hb dX10_canTake_90 hl (by decide) rfl (fun ls hl => ?_)
                      refine lv_iload hx hb dX10_canTake_92 (lv_at hl 0 rfl) ?_
                      have hPc := hP.sub (ws' := []) [] rfl
                      have hDc := hD.sub (ws' := []) [] (by decide) rfl
                      have hFc := va_free (wc := []) hD hS hA [] rfl
                      refine va_calli (va_runSN (As := [.int x_19]) (rest := []) ⟨hx, hb, hml, hown, hts⟩ (m_X11_isLetter l dC dI cI cS H.size x_19 ) ⟨va_cnB 1 hts gX10_canTake_X11_isLetter_n35 rfl rfl rfl hN35 (hts (.initialized RX11) (List.mem_of_getElem? (i := 2) rfl)) (by decide +kernel) ⟨Nat.le_of_ble_eq_true rfl, Nat.le_of_ble_eq_true rfl⟩, (hts (.static yX11_isLetter) (List.mem_of_getElem? (i := 1) rfl)), trivial⟩ ⟨fun a U g mk q => by obtain ⟨q0, q1, qP, qK, qD⟩ := q; exact ⟨q0, q1, qP, va_K.moved (u := U) (U := U.calling g mk a) (Vm.Alike.refl U.vm) qK, qD⟩, fun U hU hW => ⟨rfl, by rw [hU], by rw [hU]; exact hPc, va_K.moved hW.alike hK, hDc.weaken (fun _ _ _ _ => trivial)⟩⟩ rfl rfl hl.1 rfl (lv_room (Nat.le_of_ble_eq_true rfl)) dX10_canTake_94 ⟨Nat.le_of_ble_eq_true rfl, Nat.le_of_ble_eq_true rfl⟩) hS (fun q _ h => hFc q h) hFc (fun r_20 u t H1 locs ht hvm hw hB hz1 hk1 hS => ?_)
                      obtain ⟨hP1, hD1⟩ := hB
                      rw [ht] at hP1
                      obtain ⟨hP, hD⟩ := va_join (wr := [(o4, .inr (10, [.ref a41, .ref a42, .ref a43, .int 0])), (a41, .inl (cI, 256, .inl (fun _ => (-1)))), (a43, .inl (cI, 512, .inl (fun _ => (-1))))]) (w1 := []) hP hD [] [0, 1, 2] rfl rfl (by decide) (by decide) hk1 hFc hP1 hD1
                      generalize H1 = H at hP hS ⊢
                      have hP : va_P (dC, dI) vwCl [(o4, .inr (10, [.ref a41, .ref a42, .ref a43, .int 0])), (a41, .inl (cI, 256, .inl (fun _ => (-1)))), (a43, .inl (cI, 512, .inl (fun _ => (-1))))] H := hP
                      have hD : va_D A [(o4, .inr (10, [.ref a41, .ref a42, .ref a43, .int 0])), (a41, .inl (cI, 256, .inl (fun _ => (-1)))), (a43, .inl (cI, 512, .inl (fun _ => (-1))))] := hD
                      rw [hw]
                      refine lv_if_eq (tgt := 122) hx hb dX10_canTake_97 (by decide) (fun c_21 => ?_) (fun c_21 => ?_)
                      · refine lv_iconst (v := 0) hx hb dX10_canTake_122 (by decide) ?_
                        have hP9 := hP.sub (ws' := [(o4, .inr (10, [.ref a41, .ref a42, .ref a43, .int 0])), (a41, .inl (cI, 256, .inl (fun _ => (-1)))), (a43, .inl (cI, 512, .inl (fun _ => (-1))))]) [0, 1, 2] rfl
                        have hD9 := hD.sub (ws' := [(o4, .inr (10, [.ref a41, .ref a42, .ref a43, .int 0])), (a41, .inl (cI, 256, .inl (fun _ => (-1)))), (a43, .inl (cI, 512, .inl (fun _ => (-1))))]) [0, 1, 2] (by decide) rfl
                        exact W.zret (v := 0) (ty := .boolean) hx hb hr (rfl) (fun t ht hW => ⟨⟨0, (), rfl, by rw [f_can, if_neg c_1, if_neg c_3, if_neg c_5, if_neg (show ¬ 256 - fr < n by rw [← ex_7]; exact c_8), if_neg c_11, if_neg c_12, if_neg c_14, if_neg (fun h => c_15 h.1), if_neg (fun h => h i_77 (by rw [hn, nI_clamp (by omega)]; omega) (by rw [← hxc_77, ← ex_18, ← ex_19]; exact c_21))], by rw [ht]; exact hP9, hD9⟩, hS.F ht⟩) (hS.2.2) dX10_canTake_123
                      · refine lv_aload_n hx hb dX10_canTake_100 rfl (lv_at hl 2 rfl) ?_
                        refine lv_iload_n hx hb dX10_canTake_101 rfl (lv_at hl 3 rfl) ?_
                        refine lv_iload hx hb dX10_canTake_102 (lv_at hl 1 rfl) ?_
                        refine lv_iadd hx hb dX10_canTake_104 ?_
                        refine lv_topi (fun x_22 ex_22 => ?_)
                        have hPc := hP.sub (ws' := [(o4, .inr (10, [.ref a41, .ref a42, .ref a43, .int 0])), (a41, .inl (cI, 256, .inl (fun _ => (-1))))]) [0, 1] rfl
                        have hDc := hD.sub (ws' := [(o4, .inr (10, [.ref a41, .ref a42, .ref a43, .int 0])), (a41, .inl (cI, 256, .inl (fun _ => (-1))))]) [0, 1] (by decide) rfl
                        have hFc := va_free (wc := [(o4, .inr (10, [.ref a41, .ref a42, .ref a43, .int 0])), (a41, .inl (cI, 256, .inl (fun _ => (-1))))]) hD hS hA [0, 1] rfl
                        refine va_calli (va_runV (As := [.int x_22]) (rest := []) ⟨hx, hb, hml, hown, hts⟩ (m_X10_letterFor l dC dI cI cS H.size o4 a41 a42 a43 x_22 ) (cwV 1 hts gX10_canTake_X10_letterFor rfl rfl rfl (by decide +kernel) ⟨Nat.le_of_ble_eq_true rfl, Nat.le_of_ble_eq_true rfl⟩) ⟨fun a U g mk q => by obtain ⟨q0, q1, qP, qK, qD⟩ := q; exact ⟨q0, q1, qP, va_K.moved (u := U) (U := U.calling g mk a) (Vm.Alike.refl U.vm) qK, qD⟩, va_recv hK hPc (ci := 10) (q0 := 0) rfl rfl, fun U hU hW => ⟨rfl, by rw [hU], by rw [hU]; exact hPc, va_K.moved hW.alike hK, hDc.weaken (fun _ _ _ _ => trivial)⟩⟩ rfl rfl hl.1 rfl (lv_room (Nat.le_of_ble_eq_true rfl)) dX10_canTake_105 ⟨Nat.le_of_ble_eq_true rfl, Nat.le_of_ble_eq_true rfl⟩) hS (fun q _ h => hFc q h) hFc (fun r_23 u t H1 locs ht hvm hw hB hz1 hk1 hS => ?_)
                        obtain ⟨hP1, hD1⟩ := hB
                        rw [ht] at hP1
                        obtain ⟨hP, hD⟩ := va_join (wr := [(a43, .inl (cI, 512, .inl (fun _ => (-1))))]) (w1 := [(o4, .inr (10, [.ref a41, .ref a42, .ref a43, .int 0])), (a41, .inl (cI, 256, .inl (fun _ => (-1))))]) hP hD [0, 1] [2] rfl rfl (by decide) (by decide) hk1 hFc hP1 hD1
                        generalize H1 = H at hP hS ⊢
                        have hP : va_P (dC, dI) vwCl [(a43, .inl (cI, 512, .inl (fun _ => (-1)))), (o4, .inr (10, [.ref a41, .ref a42, .ref a43, .int 0])), (a41, .inl (cI, 256, .inl (fun _ => (-1))))] H := hP
                        have hD : va_D A [(a43, .inl (cI, 512, .inl (fun _ => (-1)))), (o4, .inr (10, [.ref a41, .ref a42, .ref a43, .int 0])), (a41, .inl (cI, 256, .inl (fun _ => (-1))))] := hD
                        subst hw
                        refine lv_iconst (v := (-1)) hx hb dX10_canTake_108 (by decide) ?_
                        refine lv_icmp_ne (tgt := 122) hx hb dX10_canTake_109 (by decide) (fun c_24 => absurd (by decide) c_24) (fun c_24 => ?_)
                        refine lv_aload_n hx hb dX10_canTake_112 rfl (lv_at hl 2 rfl) ?_
                        refine lv_iload hx hb dX10_canTake_113 (lv_at hl 0 rfl) ?_
                        have hPc := hP.sub (ws' := [(o4, .inr (10, [.ref a41, .ref a42, .ref a43, .int 0])), (a43, .inl (cI, 512, .inl (fun _ => (-1))))]) [1, 0] rfl
                        have hDc := hD.sub (ws' := [(o4, .inr (10, [.ref a41, .ref a42, .ref a43, .int 0])), (a43, .inl (cI, 512, .inl (fun _ => (-1))))]) [1, 0] (by decide) rfl
                        have hFc := va_free (wc := [(o4, .inr (10, [.ref a41, .ref a42, .ref a43, .int 0])), (a43, .inl (cI, 512, .inl (fun _ => (-1))))]) hD hS hA [1, 0] rfl
                        refine va_calli (va_runV (As := [.int x_19]) (rest := []) ⟨hx, hb, hml, hown, hts⟩ (m_X10_byteFor l dC dI cI cS H.size o4 a41 a42 a43 x_19 ) (cwV 1 hts gX10_canTake_X10_byteFor rfl rfl rfl (by decide +kernel) ⟨Nat.le_of_ble_eq_true rfl, Nat.le_of_ble_eq_true rfl⟩) ⟨fun a U g mk q => by obtain ⟨q0, q1, qP, qK, qD⟩ := q; exact ⟨q0, q1, qP, va_K.moved (u := U) (U := U.calling g mk a) (Vm.Alike.refl U.vm) qK, qD⟩, va_recv hK hPc (ci := 10) (q0 := 0) rfl rfl, fun U hU hW => ⟨rfl, by rw [hU], by rw [hU]; exact hPc, va_K.moved hW.alike hK, hDc.weaken (fun _ _ _ _ => trivial)⟩⟩ rfl rfl hl.1 rfl (lv_room (Nat.le_of_ble_eq_true rfl)) dX10_canTake_115 ⟨Nat.le_of_ble_eq_true rfl, Nat.le_of_ble_eq_true rfl⟩) hS (fun q _ h => hFc q h) hFc (fun r_25 u t H1 locs ht hvm hw hB hz1 hk1 hS => ?_)
                        obtain ⟨hP1, hD1⟩ := hB
                        rw [ht] at hP1
                        obtain ⟨hP, hD⟩ := va_join (wr := [(a41, .inl (cI, 256, .inl (fun _ => (-1))))]) (w1 := [(o4, .inr (10, [.ref a41, .ref a42, .ref a43, .int 0])), (a43, .inl (cI, 512, .inl (fun _ => (-1))))]) hP hD [1, 0] [2] rfl rfl (by decide) (by decide) hk1 hFc hP1 hD1
                        generalize H1 = H at hP hS ⊢
                        have hP : va_P (dC, dI) vwCl [(a41, .inl (cI, 256, .inl (fun _ => (-1)))), (o4, .inr (10, [.ref a41, .ref a42, .ref a43, .int 0])), (a43, .inl (cI, 512, .inl (fun _ => (-1))))] H := hP
                        have hD : va_D A [(a41, .inl (cI, 256, .inl (fun _ => (-1)))), (o4, .inr (10, [.ref a41, .ref a42, .ref a43, .int 0])), (a43, .inl (cI, 512, .inl (fun _ => (-1))))] := hD
                        subst hw
                        refine lv_iconst (v := (-1)) hx hb dX10_canTake_118 (by decide) ?_
                        refine lv_icmp_eq (tgt := 124) hx hb dX10_canTake_119 (by decide) (fun c_26 => ?_) (fun c_26 => absurd (by decide) c_26)
                        obtain ⟨x_27, ex_27⟩ : ∃ y : Int32, y = xc_77 + 1 := ⟨_, rfl⟩
                        refine lv_iinc (v := x_27) (lv' := [(6, .int x_27), (7, .int x_19), (0, .ref o4), (1, .int fr), (2, .int n), (3, .int le), (4, .int sp)]) hx hb dX10_canTake_124 hl (k := 1) rfl (by rw [ex_27]; rfl) (by decide) rfl (fun ls hl => ?_)
                        refine lv_goto (tgt := 77) hx hb dX10_canTake_127 (by decide) ?_
                        exact ih_77 (i_77 + 1) x_27  _ _ _ (by omega) (by rw [ex_27, hxc_77]; exact nI_1 i_77)  (lt_s hok (by rw [← hxc_77, ← ex_18, ← ex_19]; exact c_21)) (hP.sub [1, 0, 2] rfl) (hD.sub [1, 0, 2] (by decide) rfl) hS (lv_sub hl [0, 2, 3, 4, 5, 6] rfl)
                  exact LOOP_77 nn 0 0  _ _ _ (by omega) nI_0.symm  (fun j hj => absurd hj (Nat.not_lt_zero j)) hP hD hS (lv_sub hl [0, 2, 3, 4, 5, 6] rfl)
                · refine lv_iload_n hx hb dX10_canTake_67 rfl (lv_at hl 3 rfl) ?_
                  refine lv_iconst (v := 1) hx hb dX10_canTake_68 (by decide) ?_
                  refine lv_icmp_le (tgt := 74) hx hb dX10_canTake_69 (by decide) (fun c_28 => ?_) (fun c_28 => ?_)
                  · refine lv_iconst (v := 0) hx hb dX10_canTake_74 (by decide) ?_
                    refine lv_istore (lv' := [(6, .int 0), (5, .int 1), (0, .ref o4), (1, .int fr), (2, .int n), (3, .int le), (4, .int sp)]) hx hb dX10_canTake_75 hl (by decide) rfl (fun ls hl => ?_)
                    obtain ⟨nn, ff, hn1, hn2, hn, hff⟩ := p_nn c_1 c_5 ex_7 c_8 c_3
                    have LOOP_77 : ∀ (k_77 i_77 : Nat) (xc_77 : Int32)  (H : Heap) (locs : List Loc) (ls : Array Slot), i_77 + k_77 = nn → xc_77 = nI i_77 →  (∀ j, j < i_77 → ¬ f_isL (le + nI j * sp) = 0) → va_P (dC, dI) vwCl [(o4, .inr (10, [.ref a41, .ref a42, .ref a43, .int 0])), (a41, .inl (cI, 256, .inl (fun _ => (-1)))), (a43, .inl (cI, 512, .inl (fun _ => (-1))))] H → va_D A [(o4, .inr (10, [.ref a41, .ref a42, .ref a43, .int 0])), (a41, .inl (cI, 256, .inl (fun _ => (-1)))), (a43, .inl (cI, 512, .inl (fun _ => (-1))))] → va_S A s.heap H locs → lv_has ls 8 [(6, .int xc_77), (0, .ref o4), (1, .int fr), (2, .int n), (3, .int le), (4, .int sp)] → W p l e (headSpec wsX10_canTake ({ frames := 2, cells := 0, slots := 0, locals := 46 } : Room)).room s m ([.ref o4, .int fr, .int n, .int le, .int sp] : List Value).toArray below meth c H locs 0 0 (MQ below (va_Qi (fun (r : Int32) (_ : Unit) => r = f_can fr n le sp) (fun _ t => va_P (dC, dI) vwCl [(o4, .inr (10, [.ref a41, .ref a42, .ref a43, .int 0])), (a41, .inl (cI, 256, .inl (fun _ => (-1)))), (a43, .inl (cI, 512, .inl (fun _ => (-1))))] t.heap ∧ va_D A [(o4, .inr (10, [.ref a41, .ref a42, .ref a43, .int 0])), (a41, .inl (cI, 256, .inl (fun _ => (-1)))), (a43, .inl (cI, 512, .inl (fun _ => (-1))))]) A) ([.ref o4, .int fr, .int n, .int le, .int sp] : List Value).toArray s 0 0 A) (F0 m 77 ls []) := by
                      intro k_77
                      induction k_77 with
                      | zero =>
                        intro i_77 xc_77  H locs ls hi_77 hxc_77  hok hP hD hS hl
                        have hi2_77 : i_77 = nn := by omega
                        refine lv_iload hx hb dX10_canTake_77 (lv_at hl 0 rfl) ?_
                        refine lv_iload_n hx hb dX10_canTake_79 rfl (lv_at hl 3 rfl) ?_
                        refine lv_icmp_ge (tgt := 130) hx hb dX10_canTake_80 (by decide) (fun c_29 => ?_) (fun c_29 => absurd (by rw [hxc_77, hn]; exact nI_le (a := nn) (b := i_77) (by omega) (by rw [hi2_77]; exact (by omega))) c_29)
                        refine lv_iconst (v := 1) hx hb dX10_canTake_130 (by decide) ?_
                        have hP9 := hP.sub (ws' := [(o4, .inr (10, [.ref a41, .ref a42, .ref a43, .int 0])), (a41, .inl (cI, 256, .inl (fun _ => (-1)))), (a43, .inl (cI, 512, .inl (fun _ => (-1))))]) [0, 1, 2] rfl
                        have hD9 := hD.sub (ws' := [(o4, .inr (10, [.ref a41, .ref a42, .ref a43, .int 0])), (a41, .inl (cI, 256, .inl (fun _ => (-1)))), (a43, .inl (cI, 512, .inl (fun _ => (-1))))]) [0, 1, 2] (by decide) rfl
                        exact W.zret (v := 1) (ty := .boolean) hx hb hr (rfl) (fun t ht hW => ⟨⟨1, (), rfl, by rw [f_can, if_neg c_1, if_neg c_3, if_neg c_5, if_neg (show ¬ 256 - fr < n by rw [← ex_7]; exact c_8), if_neg c_11, if_neg c_12, if_neg c_14, if_neg (fun h => h.2 c_28), if_pos (fun j hj => hok j (by rw [hn, nI_clamp (by omega)] at hj; omega))], by rw [ht]; exact hP9, hD9⟩, hS.F ht⟩) (hS.2.2) dX10_canTake_131
                      | succ k_77 ih_77 =>
                        intro i_77 xc_77  H locs ls hi_77 hxc_77  hok hP hD hS hl
                        refine lv_iload hx hb dX10_canTake_77 (lv_at hl 0 rfl) ?_
                        refine lv_iload_n hx hb dX10_canTake_79 rfl (lv_at hl 3 rfl) ?_
                        refine lv_icmp_ge (tgt := 130) hx hb dX10_canTake_80 (by decide) (fun c_30 => absurd c_30 (by rw [hxc_77, hn]; exact nI_ge (a := i_77) (b := nn) (by omega) (by omega))) (fun c_30 => ?_)
                        refine lv_iload_n hx hb dX10_canTake_83 rfl (lv_at hl 4 rfl) ?_
                        refine lv_iload hx hb dX10_canTake_84 (lv_at hl 0 rfl) ?_
                        refine lv_iload hx hb dX10_canTake_86 (lv_at hl 5 rfl) ?_
                        refine lv_imul hx hb dX10_canTake_88 ?_
                        refine lv_topi (fun x_31 ex_31 => ?_)
                        refine lv_iadd hx hb dX10_canTake_89 ?_
                        refine lv_topi (fun x_32 ex_32 => ?_)
                        refine lv_istore (lv' := [(7, .int x_32), (6, .int xc_77), (0, .ref o4), (1, .int fr), (2, .int n), (3, .int le), (4, .int sp)]) hx hb dX10_canTake_90 hl (by decide) rfl (fun ls hl => ?_)
                        refine lv_iload hx hb dX10_canTake_92 (lv_at hl 0 rfl) ?_
                        have hPc := hP.sub (ws' := []) [] rfl
                        have hDc := hD.sub (ws' := []) [] (by decide) rfl
                        have hFc := va_free (wc := []) hD hS hA [] rfl
                        refine va_calli (va_runSN (As := [.int x_32]) (rest := []) ⟨hx, hb, hml, hown, hts⟩ (m_X11_isLetter l dC dI cI cS H.size x_32 ) ⟨va_cnB 1 hts gX10_canTake_X11_isLetter_n35 rfl rfl rfl hN35 (hts (.initialized RX11) (List.mem_of_getElem? (i := 2) rfl)) (by decide +kernel) ⟨Nat.le_of_ble_eq_true rfl, Nat.le_of_ble_eq_true rfl⟩, (hts (.static yX11_isLetter) (List.mem_of_getElem? (i := 1) rfl)), trivial⟩ ⟨fun a U g mk q => by obtain ⟨q0, q1, qP, qK, qD⟩ := q; exact ⟨q0, q1, qP, va_K.moved (u := U) (U := U.calling g mk a) (Vm.Alike.refl U.vm) qK, qD⟩, fun U hU hW => ⟨rfl, by rw [hU], by rw [hU]; exact hPc, va_K.moved hW.alike hK, hDc.weaken (fun _ _ _ _ => trivial)⟩⟩ rfl rfl hl.1 rfl (lv_room (Nat.le_of_ble_eq_true rfl)) dX10_canTake_94 ⟨Nat.le_of_ble_eq_true rfl, Nat.le_of_ble_eq_true rfl⟩) hS (fun q _ h => hFc q h) hFc (fun r_33 u t H1 locs ht hvm hw hB hz1 hk1 hS => ?_)
                        obtain ⟨hP1, hD1⟩ := hB
                        rw [ht] at hP1
                        obtain ⟨hP, hD⟩ := va_join (wr := [(o4, .inr (10, [.ref a41, .ref a42, .ref a43, .int 0])), (a41, .inl (cI, 256, .inl (fun _ => (-1)))), (a43, .inl (cI, 512, .inl (fun _ => (-1))))]) (w1 := []) hP hD [] [0, 1, 2] rfl rfl (by decide) (by decide) hk1 hFc hP1 hD1
                        generalize H1 = H at hP hS ⊢
                        have hP : va_P (dC, dI) vwCl [(o4, .inr (10, [.ref a41, .ref a42, .ref a43, .int 0])), (a41, .inl (cI, 256, .inl (fun _ => (-1)))), (a43, .inl (cI, 512, .inl (fun _ => (-1))))] H := hP
                        have hD : va_D A [(o4, .inr (10, [.ref a41, .ref a42, .ref a43, .int 0])), (a41, .inl (cI, 256, .inl (fun _ => (-1)))), (a43, .inl (cI, 512, .inl (fun _ => (-1))))] := hD
                        rw [hw]
                        refine lv_if_eq (tgt := 122) hx hb dX10_canTake_97 (by decide) (fun c_34 => ?_) (fun c_34 => ?_)
                        · refine lv_iconst (v := 0) hx hb dX10_canTake_122 (by decide) ?_
                          have hP9 := hP.sub (ws' := [(o4, .inr (10, [.ref a41, .ref a42, .ref a43, .int 0])), (a41, .inl (cI, 256, .inl (fun _ => (-1)))), (a43, .inl (cI, 512, .inl (fun _ => (-1))))]) [0, 1, 2] rfl
                          have hD9 := hD.sub (ws' := [(o4, .inr (10, [.ref a41, .ref a42, .ref a43, .int 0])), (a41, .inl (cI, 256, .inl (fun _ => (-1)))), (a43, .inl (cI, 512, .inl (fun _ => (-1))))]) [0, 1, 2] (by decide) rfl
                          exact W.zret (v := 0) (ty := .boolean) hx hb hr (rfl) (fun t ht hW => ⟨⟨0, (), rfl, by rw [f_can, if_neg c_1, if_neg c_3, if_neg c_5, if_neg (show ¬ 256 - fr < n by rw [← ex_7]; exact c_8), if_neg c_11, if_neg c_12, if_neg c_14, if_neg (fun h => h.2 c_28), if_neg (fun h => h i_77 (by rw [hn, nI_clamp (by omega)]; omega) (by rw [← hxc_77, ← ex_31, ← ex_32]; exact c_34))], by rw [ht]; exact hP9, hD9⟩, hS.F ht⟩) (hS.2.2) dX10_canTake_123
                        · refine lv_aload_n hx hb dX10_canTake_100 rfl (lv_at hl 2 rfl) ?_
                          refine lv_iload_n hx hb dX10_canTake_101 rfl (lv_at hl 3 rfl) ?_
                          refine lv_iload hx hb dX10_canTake_102 (lv_at hl 1 rfl) ?_
                          refine lv_iadd hx hb dX10_canTake_104 ?_
                          refine lv_topi (fun x_35 ex_35 => ?_)
                          have hPc := hP.sub (ws' := [(o4, .inr (10, [.ref a41, .ref a42, .ref a43, .int 0])), (a41, .inl (cI, 256, .inl (fun _ => (-1))))]) [0, 1] rfl
                          have hDc := hD.sub (ws' := [(o4, .inr (10, [.ref a41, .ref a42, .ref a43, .int 0])), (a41, .inl (cI, 256, .inl (fun _ => (-1))))]) [0, 1] (by decide) rfl
                          have hFc := va_free (wc := [(o4, .inr (10, [.ref a41, .ref a42, .ref a43, .int 0])), (a41, .inl (cI, 256, .inl (fun _ => (-1))))]) hD hS hA [0, 1] rfl
                          refine va_calli (va_runV (As := [.int x_35]) (rest := []) ⟨hx, hb, hml, hown, hts⟩ (m_X10_letterFor l dC dI cI cS H.size o4 a41 a42 a43 x_35 ) (cwV 1 hts gX10_canTake_X10_letterFor rfl rfl rfl (by decide +kernel) ⟨Nat.le_of_ble_eq_true rfl, Nat.le_of_ble_eq_true rfl⟩) ⟨fun a U g mk q => by obtain ⟨q0, q1, qP, qK, qD⟩ := q; exact ⟨q0, q1, qP, va_K.moved (u := U) (U := U.calling g mk a) (Vm.Alike.refl U.vm) qK, qD⟩, va_recv hK hPc (ci := 10) (q0 := 0) rfl rfl, fun U hU hW => ⟨rfl, by rw [hU], by rw [hU]; exact hPc, va_K.moved hW.alike hK, hDc.weaken (fun _ _ _ _ => trivial)⟩⟩ rfl rfl hl.1 rfl (lv_room (Nat.le_of_ble_eq_true rfl)) dX10_canTake_105 ⟨Nat.le_of_ble_eq_true rfl, Nat.le_of_ble_eq_true rfl⟩) hS (fun q _ h => hFc q h) hFc (fun r_36 u t H1 locs ht hvm hw hB hz1 hk1 hS => ?_)
                          obtain ⟨hP1, hD1⟩ := hB
                          rw [ht] at hP1
                          obtain ⟨hP, hD⟩ := va_join (wr := [(a43, .inl (cI, 512, .inl (fun _ => (-1))))]) (w1 := [(o4, .inr (10, [.ref a41, .ref a42, .ref a43, .int 0])), (a41, .inl (cI, 256, .inl (fun _ => (-1))))]) hP hD [0, 1] [2] rfl rfl (by decide) (by decide) hk1 hFc hP1 hD1
                          generalize H1 = H at hP hS ⊢
                          have hP : va_P (dC, dI) vwCl [(a43, .inl (cI, 512, .inl (fun _ => (-1)))), (o4, .inr (10, [.ref a41, .ref a42, .ref a43, .int 0])), (a41, .inl (cI, 256, .inl (fun _ => (-1))))] H := hP
                          have hD : va_D A [(a43, .inl (cI, 512, .inl (fun _ => (-1)))), (o4, .inr (10, [.ref a41, .ref a42, .ref a43, .int 0])), (a41, .inl (cI, 256, .inl (fun _ => (-1))))] := hD
                          subst hw
                          refine lv_iconst (v := (-1)) hx hb dX10_canTake_108 (by decide) ?_
                          refine lv_icmp_ne (tgt := 122) hx hb dX10_canTake_109 (by decide) (fun c_37 => absurd (by decide) c_37) (fun c_37 => ?_)
                          refine lv_aload_n hx hb dX10_canTake_112 rfl (lv_at hl 2 rfl) ?_
                          refine lv_iload hx hb dX10_canTake_113 (lv_at hl 0 rfl) ?_
                          have hPc := hP.sub (ws' := [(o4, .inr (10, [.ref a41, .ref a42, .ref a43, .int 0])), (a43, .inl (cI, 512, .inl (fun _ => (-1))))]) [1, 0] rfl
                          have hDc := hD.sub (ws' := [(o4, .inr (10, [.ref a41, .ref a42, .ref a43, .int 0])), (a43, .inl (cI, 512, .inl (fun _ => (-1))))]) [1, 0] (by decide) rfl
                          have hFc := va_free (wc := [(o4, .inr (10, [.ref a41, .ref a42, .ref a43, .int 0])), (a43, .inl (cI, 512, .inl (fun _ => (-1))))]) hD hS hA [1, 0] rfl
                          refine va_calli (va_runV (As := [.int x_32]) (rest := []) ⟨hx, hb, hml, hown, hts⟩ (m_X10_byteFor l dC dI cI cS H.size o4 a41 a42 a43 x_32 ) (cwV 1 hts gX10_canTake_X10_byteFor rfl rfl rfl (by decide +kernel) ⟨Nat.le_of_ble_eq_true rfl, Nat.le_of_ble_eq_true rfl⟩) ⟨fun a U g mk q => by obtain ⟨q0, q1, qP, qK, qD⟩ := q; exact ⟨q0, q1, qP, va_K.moved (u := U) (U := U.calling g mk a) (Vm.Alike.refl U.vm) qK, qD⟩, va_recv hK hPc (ci := 10) (q0 := 0) rfl rfl, fun U hU hW => ⟨rfl, by rw [hU], by rw [hU]; exact hPc, va_K.moved hW.alike hK, hDc.weaken (fun _ _ _ _ => trivial)⟩⟩ rfl rfl hl.1 rfl (lv_room (Nat.le_of_ble_eq_true rfl)) dX10_canTake_115 ⟨Nat.le_of_ble_eq_true rfl, Nat.le_of_ble_eq_true rfl⟩) hS (fun q _ h => hFc q h) hFc (fun r_38 u t H1 locs ht hvm hw hB hz1 hk1 hS => ?_)
                          obtain ⟨hP1, hD1⟩ := hB
                          rw [ht] at hP1
                          obtain ⟨hP, hD⟩ := va_join (wr := [(a41, .inl (cI, 256, .inl (fun _ => (-1))))]) (w1 := [(o4, .inr (10, [.ref a41, .ref a42, .ref a43, .int 0])), (a43, .inl (cI, 512, .inl (fun _ => (-1))))]) hP hD [1, 0] [2] rfl rfl (by decide) (by decide) hk1 hFc hP1 hD1
                          generalize H1 = H at hP hS ⊢
                          have hP : va_P (dC, dI) vwCl [(a41, .inl (cI, 256, .inl (fun _ => (-1)))), (o4, .inr (10, [.ref a41, .ref a42, .ref a43, .int 0])), (a43, .inl (cI, 512, .inl (fun _ => (-1))))] H := hP
                          have hD : va_D A [(a41, .inl (cI, 256, .inl (fun _ => (-1)))), (o4, .inr (10, [.ref a41, .ref a42, .ref a43, .int 0])), (a43, .inl (cI, 512, .inl (fun _ => (-1))))] := hD
                          subst hw
                          refine lv_iconst (v := (-1)) hx hb dX10_canTake_118 (by decide) ?_
                          refine lv_icmp_eq (tgt := 124) hx hb dX10_canTake_119 (by decide) (fun c_39 => ?_) (fun c_39 => absurd (by decide) c_39)
                          obtain ⟨x_40, ex_40⟩ : ∃ y : Int32, y = xc_77 + 1 := ⟨_, rfl⟩
                          refine lv_iinc (v := x_40) (lv' := [(6, .int x_40), (7, .int x_32), (0, .ref o4), (1, .int fr), (2, .int n), (3, .int le), (4, .int sp)]) hx hb dX10_canTake_124 hl (k := 1) rfl (by rw [ex_40]; rfl) (by decide) rfl (fun ls hl => ?_)
                          refine lv_goto (tgt := 77) hx hb dX10_canTake_127 (by decide) ?_
                          exact ih_77 (i_77 + 1) x_40  _ _ _ (by omega) (by rw [ex_40, hxc_77]; exact nI_1 i_77)  (lt_s hok (by rw [← hxc_77, ← ex_31, ← ex_32]; exact c_34)) (hP.sub [1, 0, 2] rfl) (hD.sub [1, 0, 2] (by decide) rfl) hS (lv_sub hl [0, 2, 3, 4, 5, 6] rfl)
                    exact LOOP_77 nn 0 0  _ _ _ (by omega) nI_0.symm  (fun j hj => absurd hj (Nat.not_lt_zero j)) hP hD hS (lv_sub hl [0, 2, 3, 4, 5, 6] rfl)
                  · refine lv_iconst (v := 0) hx hb dX10_canTake_72 (by decide) ?_
                    have hP9 := hP.sub (ws' := [(o4, .inr (10, [.ref a41, .ref a42, .ref a43, .int 0])), (a41, .inl (cI, 256, .inl (fun _ => (-1)))), (a43, .inl (cI, 512, .inl (fun _ => (-1))))]) [0, 1, 2] rfl
                    have hD9 := hD.sub (ws' := [(o4, .inr (10, [.ref a41, .ref a42, .ref a43, .int 0])), (a41, .inl (cI, 256, .inl (fun _ => (-1)))), (a43, .inl (cI, 512, .inl (fun _ => (-1))))]) [0, 1, 2] (by decide) rfl
                    exact W.zret (v := 0) (ty := .boolean) hx hb hr (rfl) (fun t ht hW => ⟨⟨0, (), rfl, by simp [f_can, ← ex_7, c_1, c_3, c_5, c_8, c_11, c_12, c_14, c_15, c_28], by rw [ht]; exact hP9, hD9⟩, hS.F ht⟩) (hS.2.2) dX10_canTake_73
              · refine lv_iconst (v := 0) hx hb dX10_canTake_60 (by decide) ?_
                have hP9 := hP.sub (ws' := [(o4, .inr (10, [.ref a41, .ref a42, .ref a43, .int 0])), (a41, .inl (cI, 256, .inl (fun _ => (-1)))), (a43, .inl (cI, 512, .inl (fun _ => (-1))))]) [0, 1, 2] rfl
                have hD9 := hD.sub (ws' := [(o4, .inr (10, [.ref a41, .ref a42, .ref a43, .int 0])), (a41, .inl (cI, 256, .inl (fun _ => (-1)))), (a43, .inl (cI, 512, .inl (fun _ => (-1))))]) [0, 1, 2] (by decide) rfl
                exact W.zret (v := 0) (ty := .boolean) hx hb hr (rfl) (fun t ht hW => ⟨⟨0, (), rfl, by simp [f_can, ← ex_7, c_1, c_3, c_5, c_8, c_11, c_12, c_14], by rw [ht]; exact hP9, hD9⟩, hS.F ht⟩) (hS.2.2) dX10_canTake_61
