/-! 58.list -/
section
def okc (c : Int32) : Prop := 0 ≤ c.toInt ∧ c.toInt ≤ 5
def F_tell (l l' r a b : Int32) (f f' g g' : Nat → Int32) : Prop := (r = 1 ∧ l.toInt < 6 ∧ noP l.toInt a b f g ∧ l'.toInt = l.toInt + 1 ∧ f' = upd f l.toNatClampNeg a ∧ g' = upd g l.toNatClampNeg b) ∨ (r = 0 ∧ (6 ≤ l.toInt ∨ isP l.toInt a b f g) ∧ l' = l ∧ f' = f ∧ g' = g)
def F_list (l l' r a b : Int32) (f f' g g' : Nat → Int32) : Prop := (okc a ∧ okc b ∧ l.toInt < 6 ∧ noP l.toInt a b f g ∧ r.toInt = l.toInt ∧ l'.toInt = l.toInt + 1 ∧ f' = upd f l.toNatClampNeg a ∧ g' = upd g l.toNatClampNeg b) ∨ (r = -1 ∧ (¬ okc a ∨ ¬ okc b ∨ 6 ≤ l.toInt ∨ isP l.toInt a b f g) ∧ l' = l ∧ f' = f ∧ g' = g)
theorem F_list_of {l l' r q a b : Int32} {f f' g g' : Nat → Int32} (h : F_tell l l' r a b f f' g g') (ha : okc a) (hb : okc b) (h1 : r = 1 → q.toInt = l'.toInt - 1) (h0 : r = 0 → q = -1) : F_list l l' q a b f f' g g' := by
  rcases h with ⟨e, z1, z2, z3, z4, z5⟩ | ⟨e, z1, z2, z3, z4⟩
  · have := h1 e
    exact Or.inl ⟨ha, hb, z1, z2, by omega, z3, z4, z5⟩
  · exact Or.inr ⟨h0 e, z1.elim (fun w => Or.inr (Or.inr (Or.inl w))) (fun w => Or.inr (Or.inr (Or.inr w))), z2, z3, z4⟩
/-- both lists are alike -/
def eqP (n : Int) (f f2 g g2 : Nat → Int32) : Prop := ∀ j : Nat, (j : Int) < n → f j = f2 j ∧ g j = g2 j
theorem eqP_isP {n : Int} {a b : Int32} {f f2 g g2 : Nat → Int32} (h : eqP n f f2 g g2) (h2 : isP n a b f g) : isP n a b f2 g2 := by
  obtain ⟨j, h1, h3, h4⟩ := h2
  exact ⟨j, h1, by rw [← (h j h1).1]; exact h3, by rw [← (h j h1).2]; exact h4⟩
theorem eqP_symm {n : Int} {f f2 g g2 : Nat → Int32} (h : eqP n f f2 g g2) : eqP n f2 f g2 g := fun j hj => ⟨(h j hj).1.symm, (h j hj).2.symm⟩
theorem list_eq {l l' r z z' q a b : Int32} {f f' g g' f2 f2' g2 g2' : Nat → Int32} (hl : l.toInt = z.toInt) (he : eqP l.toInt f f2 g g2) (h1 : F_list l l' r a b f f' g g') (h2 : F_list z z' q a b f2 f2' g2 g2') : r = q ∧ l'.toInt = z'.toInt ∧ (0 ≤ l.toInt → eqP l'.toInt f' f2' g' g2') := by
  have hlz : l = z := v_inj hl
  subst hlz
  rcases h1 with ⟨a1, a2, a3, a4, a5, a6, a7, a8⟩ | ⟨a1, a2, a3, a4, a5⟩ <;> rcases h2 with ⟨b1, b2, b3, b4, b5, b6, b7, b8⟩ | ⟨b1, b2, b3, b4, b5⟩
  · refine ⟨v_inj (by omega), by omega, fun h0 j hj => ?_⟩
    have q := v_clamp h0
    rw [a7, a8, b7, b8]
    by_cases w : j = l.toNatClampNeg
    · rw [w]; exact ⟨by rw [pk_us, pk_us], by rw [pk_us, pk_us]⟩
    · rw [pk_un w, pk_un w, pk_un w, pk_un w]; exact he j (by omega)
  · exfalso
    rcases b2 with w | w | w | w
    · exact w a1
    · exact w a2
    · omega
    · exact noP_isP a4 (eqP_isP (eqP_symm he) w)
  · exfalso
    rcases a2 with w | w | w | w
    · exact w b1
    · exact w b2
    · omega
    · exact noP_isP b4 (eqP_isP he w)
  · refine ⟨by rw [a1, b1], by rw [a3, b3], fun _ => ?_⟩
    rw [a3, a4, a5, b4, b5]; exact he

set_option maxHeartbeats 40000000 in
set_option maxRecDepth 100000 in
theorem f_X4_tell (l : Launch) (dC : Nat → ClassId) (dI : Nat → Nat → Nat) (cI cS : ClassId) (sz : Nat) (oH : Nat) (oP : Nat) (h1 : Nat) (h2 : Nat) (lH : Int32) (fH1 : Nat → Int32) (fH2 : Nat → Int32) (a : Int32) (b : Int32) (g_lH : 0 ≤ lH.toInt ∧ lH.toInt ≤ 6) : kMi l yX4_tell wsX4_tell ({ frames := 0, cells := 0, slots := 0, locals := 0 } : Room) [.ref oH, .int a, .int b] sz (dC, dI) vwCl [(cI, .int), (cS, .short)] [(oH, .inr (4, [.ref oP, .ref h1, .ref h2, .int lH])), (h1, .inl (cI, 6, .inl fH1)), (h2, .inl (cI, 6, .inl fH2))] (fun _ => True) 0 0 (fun (A : Nat → Prop) (r : Int32) (hh9 : Heap) => ∃ (lH' : Int32) (fH1' : Nat → Int32) (fH2' : Nat → Int32), kPD (dC, dI) vwCl A [(oH, .inr (4, [.ref oP, .ref h1, .ref h2, .int lH'])), (h1, .inl (cI, 6, .inl fH1')), (h2, .inl (cI, 6, .inl fH2'))] hh9 ∧ (0 ≤ lH'.toInt ∧ lH'.toInt ≤ 6) ∧ (0 ≤ r.toInt ∧ r.toInt ≤ 1) ∧ ((r.toInt = 1 ∧ lH'.toInt = lH.toInt + 1) ∨ (r.toInt = 0 ∧ lH'.toInt = lH.toInt)) ∧ (F_tell lH lH' r a b fH1 fH1' fH2 fH2')) := by
  refine kMi_of (cc := cX4_tell) (maxL := 4) (ret := (some .boolean)) (lv := [(0, .ref oH), (1, .int a), (2, .int b)]) (by decide +kernel) rfl rfl (Nat.le_of_ble_eq_true rfl) ?_
  intro p e s m below meth c A QQ ls hx hb hr hts hml hown hlocks hA hQQ hK hX hP hD hS hl
  have hown : s.vm.findClass RX4 = some m.cls := hown
  have hcf := k_cf hx hb hml hown hts
  have in_X4 : ∀ w ∈ wsX40, w ∈ wsX4_tell := fun _ h => List.mem_cons_of_mem _ (List.mem_append_right _ (h))
  refine lv_iconst (v := 0) hx hb dX4_tell_0 (by decide) ?_
  refine lv_istore_n (lv' := [(3, .int 0), (0, .ref oH), (1, .int a), (2, .int b)]) hx hb dX4_tell_1 rfl hl (by decide) rfl (fun ls hl => ?_)
  have LOOP_2 : ∀ (k_2 : Nat) (h : Int32) (H : Heap) (locs : List Loc) (ls : Array Slot), MSd (lH.toInt - h.toInt : Int) k_2 → (0 ≤ h.toInt ∧ h.toInt ≤ 6) → (noP h.toInt a b fH1 fH2) → (h.toInt ≤ lH.toInt) → va_P (dC, dI) vwCl [(oH, .inr (4, [.ref oP, .ref h1, .ref h2, .int lH])), (h1, .inl (cI, 6, .inl fH1)), (h2, .inl (cI, 6, .inl fH2))] H → va_D A [(oH, .inr (4, [.ref oP, .ref h1, .ref h2, .int lH])), (h1, .inl (cI, 6, .inl fH1)), (h2, .inl (cI, 6, .inl fH2))] → va_S A s.heap H locs → lv_has ls 4 [(3, .int h), (0, .ref oH), (1, .int a), (2, .int b)] → W p l e (headSpec wsX4_tell ({ frames := 0, cells := 0, slots := 0, locals := 0 } : Room)).room s m ([.ref oH, .int a, .int b] : List Value).toArray below meth c H locs 0 0 (MQ below QQ ([.ref oH, .int a, .int b] : List Value).toArray s 0 0 A) (F0 m 2 ls []) := by
    clear hP hD hS hl
    intro k_2
    induction k_2 with
    | zero =>
      intro h H locs ls hm_2 g_h hno hhl hP hD hS hl
      exact ms_0 hm_2
    | succ k_2 ih_2 =>
      intro h H locs ls hm_2 g_h hno hhl hP hD hS hl
      refine lv_iload_n hx hb dX4_tell_2 rfl (lv_at hl 0 rfl) ?_
      refine lv_aload_n hx hb dX4_tell_3 rfl (lv_at hl 1 rfl) ?_
      refine va_get (D := (dC, dI)) (ci := 4) (v := .int lH) (C := RX4) (T := TX4) (N := 4) hx hb hts in_X4 hown hK hP 0 rfl rfl 3 (by decide) (hts (.fieldLink RX4 22 "TextMender$Harms" "length" "I") (List.mem_of_getElem? (i := 1) rfl)) (fun _ h9 => h9) rfl dX4_tell_4 ?_
      refine lv_icmp_ge (tgt := 38) hx hb dX4_tell_7 (by decide) (fun c_1 => ?_) (fun c_1 => ?_)
      · have tc_1 : lH.toInt ≤ h.toInt := v_le c_1
        refine lv_aload_n hx hb dX4_tell_38 rfl (lv_at hl 1 rfl) ?_
        refine va_get (D := (dC, dI)) (ci := 4) (v := .int lH) (C := RX4) (T := TX4) (N := 4) hx hb hts in_X4 hown hK hP 0 rfl rfl 3 (by decide) (hts (.fieldLink RX4 22 "TextMender$Harms" "length" "I") (List.mem_of_getElem? (i := 1) rfl)) (fun _ h9 => h9) rfl dX4_tell_39 ?_
        refine lv_bipush (v := 6) hx hb dX4_tell_42 (by decide) ?_
        refine lv_icmp_lt (tgt := 49) hx hb dX4_tell_44 (by decide) (fun c_2 => ?_) (fun c_2 => ?_)
        · have tc_2 : lH.toInt < 6 := v_lt c_2
          refine lv_aload_n hx hb dX4_tell_49 rfl (lv_at hl 1 rfl) ?_
          refine va_get (D := (dC, dI)) (ci := 4) (v := .ref h1) (C := RX4) (T := TX4) (N := 4) hx hb hts in_X4 hown hK hP 0 rfl rfl 1 (by decide) (hts (.fieldLink RX4 9 "TextMender$Harms" "writtenIn" "[I") (List.mem_of_getElem? (i := 2) rfl)) (fun _ h9 => h9) rfl dX4_tell_50 ?_
          refine lv_aload_n hx hb dX4_tell_53 rfl (lv_at hl 1 rfl) ?_
          refine va_get (D := (dC, dI)) (ci := 4) (v := .int lH) (C := RX4) (T := TX4) (N := 4) hx hb hts in_X4 hown hK hP 0 rfl rfl 3 (by decide) (hts (.fieldLink RX4 22 "TextMender$Harms" "length" "I") (List.mem_of_getElem? (i := 1) rfl)) (fun _ h9 => h9) rfl dX4_tell_54 ?_
          refine lv_iload_n hx hb dX4_tell_57 rfl (lv_at hl 2 rfl) ?_
          obtain ⟨f_3, ef_3⟩ : ∃ g : Nat → Int32, g = upd fH1 (lH : Int32).toNatClampNeg a := ⟨_, rfl⟩
          refine va_iast hx hb hK hP hD hS 1 0 rfl rfl (v_in (by omega)) dX4_tell_58 (kWf (g := f_3) (F := fun f_3 => [(oH, .inr (4, [.ref oP, .ref h1, .ref h2, .int lH])), (h1, .inl (cI, 6, .inl f_3)), (h2, .inl (cI, 6, .inl fH2))]) ef_3 rfl (fun H locs hPn hDn hSn => ?_))
          clear hP hD hS
          have hP := hPn
          have hD := hDn
          have hS := hSn
          clear hPn hDn hSn
          refine lv_aload_n hx hb dX4_tell_59 rfl (lv_at hl 1 rfl) ?_
          refine va_get (D := (dC, dI)) (ci := 4) (v := .ref h2) (C := RX4) (T := TX4) (N := 4) hx hb hts in_X4 hown hK hP 0 rfl rfl 2 (by decide) (hts (.fieldLink RX4 15 "TextMender$Harms" "readIn" "[I") (List.mem_of_getElem? (i := 3) rfl)) (fun _ h9 => h9) rfl dX4_tell_60 ?_
          refine lv_aload_n hx hb dX4_tell_63 rfl (lv_at hl 1 rfl) ?_
          refine va_get (D := (dC, dI)) (ci := 4) (v := .int lH) (C := RX4) (T := TX4) (N := 4) hx hb hts in_X4 hown hK hP 0 rfl rfl 3 (by decide) (hts (.fieldLink RX4 22 "TextMender$Harms" "length" "I") (List.mem_of_getElem? (i := 1) rfl)) (fun _ h9 => h9) rfl dX4_tell_64 ?_
          refine lv_iload_n hx hb dX4_tell_67 rfl (lv_at hl 3 rfl) ?_
          obtain ⟨f_4, ef_4⟩ : ∃ g : Nat → Int32, g = upd fH2 (lH : Int32).toNatClampNeg b := ⟨_, rfl⟩
          refine va_iast hx hb hK hP hD hS 2 0 rfl rfl (v_in (by omega)) dX4_tell_68 (kWf (g := f_4) (F := fun f_4 => [(oH, .inr (4, [.ref oP, .ref h1, .ref h2, .int lH])), (h1, .inl (cI, 6, .inl f_3)), (h2, .inl (cI, 6, .inl f_4))]) ef_4 rfl (fun H locs hPn hDn hSn => ?_))
          clear hP hD hS
          have hP := hPn
          have hD := hDn
          have hS := hSn
          clear hPn hDn hSn
          refine lv_aload_n hx hb dX4_tell_69 rfl (lv_at hl 1 rfl) ?_
          refine lv_dup hx hb dX4_tell_70 rfl ?_
          refine va_get (D := (dC, dI)) (ci := 4) (v := .int lH) (C := RX4) (T := TX4) (N := 4) hx hb hts in_X4 hown hK hP 0 rfl rfl 3 (by decide) (hts (.fieldLink RX4 22 "TextMender$Harms" "length" "I") (List.mem_of_getElem? (i := 1) rfl)) (fun _ h9 => h9) rfl dX4_tell_71 ?_
          refine lv_iconst (v := 1) hx hb dX4_tell_74 (by decide) ?_
          refine lv_iadd hx hb dX4_tell_75 ?_
          refine lv_topi (fun x_5 ex_5 => ?_)
          have tx_5 : x_5.toInt = lH.toInt + 1 := v_addR (l2 := 1) (h2 := 1) ex_5 g_lH (by decide) (by decide) (by decide)
          refine va_put (D := (dC, dI)) (ci := 4) (v := .int x_5) (ty := .int) (C := RX4) (T := TX4) (N := 4) hx hb hts in_X4 tyX4 tyX4_ok nmX4 hown hK hP hD hS 0 rfl rfl 3 (by decide) (hts (.fieldLink RX4 22 "TextMender$Harms" "length" "I") (List.mem_of_getElem? (i := 1) rfl)) (fun _ h9 => h9) rfl (by decide +kernel) rfl rfl (Nat.le_of_ble_eq_true rfl) dX4_tell_76 (kW (wn := [(oH, .inr (4, [.ref oP, .ref h1, .ref h2, .int x_5])), (h1, .inl (cI, 6, .inl f_3)), (h2, .inl (cI, 6, .inl f_4))]) rfl (fun H locs hPn hDn hSn => ?_))
          clear hP hD hS
          have hP := hPn
          have hD := hDn
          have hS := hSn
          clear hPn hDn hSn
          refine lv_iconst (v := 1) hx hb dX4_tell_79 (by decide) ?_
          exact kl_z (v := 1) hQQ hx hb hr hlocks hS dX4_tell_80 (rfl) ⟨x_5, f_3, f_4, ⟨hP, hD⟩, by omega, by decide, by show (1 = 1 ∧ x_5.toInt = lH.toInt + 1) ∨ (1 = 0 ∧ x_5.toInt = lH.toInt); omega, Or.inl ⟨rfl, by omega, fun j hj => hno j (by omega), by omega, ef_3, ef_4⟩⟩
        · have tc_2 : 6 ≤ lH.toInt := v_nlt c_2
          refine lv_iconst (v := 0) hx hb dX4_tell_47 (by decide) ?_
          exact kl_z (v := 0) hQQ hx hb hr hlocks hS dX4_tell_48 (rfl) ⟨lH, fH1, fH2, ⟨hP, hD⟩, g_lH, by decide, by show (0 = 1 ∧ lH.toInt = lH.toInt + 1) ∨ (0 = 0 ∧ lH.toInt = lH.toInt); omega, Or.inr ⟨rfl, Or.inl (by omega), rfl, rfl, rfl⟩⟩
      · have tc_1 : h.toInt < lH.toInt := v_nle c_1
        refine lv_aload_n hx hb dX4_tell_10 rfl (lv_at hl 1 rfl) ?_
        refine va_get (D := (dC, dI)) (ci := 4) (v := .ref h1) (C := RX4) (T := TX4) (N := 4) hx hb hts in_X4 hown hK hP 0 rfl rfl 1 (by decide) (hts (.fieldLink RX4 9 "TextMender$Harms" "writtenIn" "[I") (List.mem_of_getElem? (i := 2) rfl)) (fun _ h9 => h9) rfl dX4_tell_11 ?_
        refine lv_iload_n hx hb dX4_tell_14 rfl (lv_at hl 0 rfl) ?_
        refine va_iald hx hb hK hP 1 0 rfl rfl (v_in (by omega)) dX4_tell_15 ?_
        refine lv_topi (fun x_6 ex_6 => ?_)
        refine lv_iload_n hx hb dX4_tell_16 rfl (lv_at hl 2 rfl) ?_
        refine lv_icmp_ne (tgt := 32) hx hb dX4_tell_17 (by decide) (fun c_7 => ?_) (fun c_7 => ?_)
        · have tc_7 : ¬ x_6.toInt = a.toInt := v_ne c_7
          have rw7_0 := v_rng x_6
          have rw7_1 := v_rng a
          obtain ⟨x_8, ex_8⟩ : ∃ y : Int32, y = h + 1 := ⟨_, rfl⟩
          have tx_8 : x_8.toInt = h.toInt + 1 := v_addR (l2 := 1) (h2 := 1) ex_8 g_h (by decide) (by decide) (by decide)
          refine lv_iinc (v := x_8) (lv' := [(3, .int x_8), (0, .ref oH), (1, .int a), (2, .int b)]) hx hb dX4_tell_32 hl (k := 0) rfl (by rw [ex_8]; rfl) (by decide) rfl (fun ls hl => ?_)
          refine lv_goto (tgt := 2) hx hb dX4_tell_35 (by decide) ?_
          exact ih_2 x_8 _ _ _ (ms_lt hm_2 (by show ((lH.toInt - x_8.toInt : Int)) < lH.toInt - h.toInt; omega) (by show (0 : Int) < lH.toInt - h.toInt; omega)) (by show 0 ≤ x_8.toInt ∧ x_8.toInt ≤ 6; omega) (noP_s1 hno ex_6 c_7 (by omega) (by omega)) (by show x_8.toInt ≤ lH.toInt; omega) hP hD hS (lv_sub hl [0, 1, 2, 3] rfl)
        · have tc_7 : x_6.toInt = a.toInt := v_eq c_7
          have rw7_0 := v_rng x_6
          have rw7_1 := v_rng a
          refine lv_aload_n hx hb dX4_tell_20 rfl (lv_at hl 1 rfl) ?_
          refine va_get (D := (dC, dI)) (ci := 4) (v := .ref h2) (C := RX4) (T := TX4) (N := 4) hx hb hts in_X4 hown hK hP 0 rfl rfl 2 (by decide) (hts (.fieldLink RX4 15 "TextMender$Harms" "readIn" "[I") (List.mem_of_getElem? (i := 3) rfl)) (fun _ h9 => h9) rfl dX4_tell_21 ?_
          refine lv_iload_n hx hb dX4_tell_24 rfl (lv_at hl 0 rfl) ?_
          refine va_iald hx hb hK hP 2 0 rfl rfl (v_in (by omega)) dX4_tell_25 ?_
          refine lv_topi (fun x_9 ex_9 => ?_)
          refine lv_iload_n hx hb dX4_tell_26 rfl (lv_at hl 3 rfl) ?_
          refine lv_icmp_ne (tgt := 32) hx hb dX4_tell_27 (by decide) (fun c_10 => ?_) (fun c_10 => ?_)
          · have tc_10 : ¬ x_9.toInt = b.toInt := v_ne c_10
            have rw10_0 := v_rng x_9
            have rw10_1 := v_rng b
            obtain ⟨x_11, ex_11⟩ : ∃ y : Int32, y = h + 1 := ⟨_, rfl⟩
            have tx_11 : x_11.toInt = h.toInt + 1 := v_addR (l2 := 1) (h2 := 1) ex_11 g_h (by decide) (by decide) (by decide)
            refine lv_iinc (v := x_11) (lv' := [(3, .int x_11), (0, .ref oH), (1, .int a), (2, .int b)]) hx hb dX4_tell_32 hl (k := 0) rfl (by rw [ex_11]; rfl) (by decide) rfl (fun ls hl => ?_)
            refine lv_goto (tgt := 2) hx hb dX4_tell_35 (by decide) ?_
            exact ih_2 x_11 _ _ _ (ms_lt hm_2 (by show ((lH.toInt - x_11.toInt : Int)) < lH.toInt - h.toInt; omega) (by show (0 : Int) < lH.toInt - h.toInt; omega)) (by show 0 ≤ x_11.toInt ∧ x_11.toInt ≤ 6; omega) (noP_s2 hno ex_9 c_10 (by omega) (by omega)) (by show x_11.toInt ≤ lH.toInt; omega) hP hD hS (lv_sub hl [0, 1, 2, 3] rfl)
          · have tc_10 : x_9.toInt = b.toInt := v_eq c_10
            have rw10_0 := v_rng x_9
            have rw10_1 := v_rng b
            refine lv_iconst (v := 0) hx hb dX4_tell_30 (by decide) ?_
            exact kl_z (v := 0) hQQ hx hb hr hlocks hS dX4_tell_31 (rfl) ⟨lH, fH1, fH2, ⟨hP, hD⟩, g_lH, by decide, by show (0 = 1 ∧ lH.toInt = lH.toInt + 1) ∨ (0 = 0 ∧ lH.toInt = lH.toInt); omega, Or.inr ⟨rfl, Or.inr (isP_at ex_6 ex_9 c_7 c_10 (by omega) (by omega)), rfl, rfl, rfl⟩⟩
  exact LOOP_2 _ 0 _ _ _ (ms_s _) (by decide) (noP_0 (by decide)) (by show 0 ≤ lH.toInt; omega) hP hD hS (lv_sub hl [0, 1, 2, 3] rfl)

set_option maxHeartbeats 40000000 in
set_option maxRecDepth 100000 in
theorem f_X11_list (l : Launch) (dC : Nat → ClassId) (dI : Nat → Nat → Nat) (cI cS : ClassId) (sz : Nat) (oX : Nat) (nT : Nat) (nL : Nat) (nM : Nat) (oC : Nat) (oP : Nat) (oH : Nat) (oK : Nat) (oG : Nat) (oR : Nat) (oQ : Nat) (oW : Nat) (h1 : Nat) (h2 : Nat) (nw : Nat) (w1 : Nat) (w2 : Nat) (w3 : Nat) (o7 : Nat) (o8 : Nat) (o9 : Nat) (w4 : Nat) (w5 : Nat) (w6 : Nat) (w7 : Nat) (fa : Int32) (lH : Int32) (fH1 : Nat → Int32) (fH2 : Nat → Int32) (ke : Int32) (tl : Int32) (fsh : Int32) (wi : Int32) (ri : Int32) (fm : Int32) (lm : Int32) (a : Int32) (b : Int32) (g_lH : 0 ≤ lH.toInt ∧ lH.toInt ≤ 6) (g_ke : 0 ≤ ke.toInt ∧ ke.toInt ≤ 200) (g_fsh : 0 ≤ fsh.toInt ∧ fsh.toInt ≤ 1) (g_fm : -1 ≤ fm.toInt ∧ fm.toInt ≤ 800) (g_lm : -1 ≤ lm.toInt ∧ lm.toInt ≤ 800) : kMi l yX11_list wsX11_list ({ frames := 1, cells := 0, slots := 0, locals := 23 } : Room) [.ref oX, .int a, .int b] sz (dC, dI) vwCl [(cI, .int), (cS, .short)] [(oX, .inr (11, [.ref nT, .ref nL, .ref nM, .ref oC, .ref oP, .ref oH, .ref oK, .ref oG, .ref oR, .ref oQ, .ref oW, .int fa])), (oH, .inr (4, [.ref oP, .ref h1, .ref h2, .int lH])), (h1, .inl (cI, 6, .inl fH1)), (h2, .inl (cI, 6, .inl fH2)), (oW, .inr (1, [.ref oC, .ref oK, .ref nw, .ref w1, .ref w2, .ref w3, .ref o7, .ref o8, .ref o9, .ref w4, .ref w5, .ref w6, .ref w7, .int ke, .int tl, .int fsh, .int wi, .int ri, .int fm, .int lm]))] (fun _ => True) 0 0 (fun (A : Nat → Prop) (r : Int32) (hh9 : Heap) => ∃ (fa' : Int32) (lH' : Int32) (fH1' : Nat → Int32) (fH2' : Nat → Int32) (fsh' : Int32), kPD (dC, dI) vwCl A [(oX, .inr (11, [.ref nT, .ref nL, .ref nM, .ref oC, .ref oP, .ref oH, .ref oK, .ref oG, .ref oR, .ref oQ, .ref oW, .int fa'])), (oH, .inr (4, [.ref oP, .ref h1, .ref h2, .int lH'])), (h1, .inl (cI, 6, .inl fH1')), (h2, .inl (cI, 6, .inl fH2')), (oW, .inr (1, [.ref oC, .ref oK, .ref nw, .ref w1, .ref w2, .ref w3, .ref o7, .ref o8, .ref o9, .ref w4, .ref w5, .ref w6, .ref w7, .int ke, .int tl, .int fsh', .int wi, .int ri, .int fm, .int lm]))] hh9 ∧ (0 ≤ lH'.toInt ∧ lH'.toInt ≤ 6) ∧ (0 ≤ fsh'.toInt ∧ fsh'.toInt ≤ 1) ∧ (F_list lH lH' r a b fH1 fH1' fH2 fH2') ∧ (F_fs (-1) r fsh fsh')) := by
  refine kMi_of (cc := cX11_list) (maxL := 3) (ret := (some .int)) (lv := [(0, .ref oX), (1, .int a), (2, .int b)]) (by decide +kernel) rfl rfl (Nat.le_of_ble_eq_true rfl) ?_
  intro p e s m below meth c A QQ ls hx hb hr hts hml hown hlocks hA hQQ hK hX hP hD hS hl
  have hown : s.vm.findClass RX11 = some m.cls := hown
  have hcf := k_cf hx hb hml hown hts
  have in_X11 : ∀ w ∈ wsX110, w ∈ wsX11_list := fun _ h => List.mem_cons_of_mem _ (List.mem_append_left _ (List.mem_append_left _ (List.mem_append_right _ (h))))
  replace g_ke := hid g_ke
  replace g_fm := hid g_fm
  replace g_lm := hid g_lm
  refine lv_aload_n hx hb dX11_list_0 rfl (lv_at hl 0 rfl) ?_
  refine lv_iconst (v := (-1)) hx hb dX11_list_1 (by decide) ?_
  refine va_put (D := (dC, dI)) (ci := 11) (v := .int (-1)) (ty := .int) (C := RX11) (T := TX11) (N := 12) hx hb hts in_X11 tyX11 tyX11_ok nmX11 hown hK hP hD hS 0 rfl rfl 11 (by decide) (hts (.fieldLink RX11 90 "TextMender" "fault" "I") (List.mem_of_getElem? (i := 1) rfl)) (fun _ h9 => h9) rfl (by decide +kernel) rfl rfl (Nat.le_of_ble_eq_true rfl) dX11_list_2 (kW (wn := [(oX, .inr (11, [.ref nT, .ref nL, .ref nM, .ref oC, .ref oP, .ref oH, .ref oK, .ref oG, .ref oR, .ref oQ, .ref oW, .int (-1)])), (oH, .inr (4, [.ref oP, .ref h1, .ref h2, .int lH])), (h1, .inl (cI, 6, .inl fH1)), (h2, .inl (cI, 6, .inl fH2)), (oW, .inr (1, [.ref oC, .ref oK, .ref nw, .ref w1, .ref w2, .ref w3, .ref o7, .ref o8, .ref o9, .ref w4, .ref w5, .ref w6, .ref w7, .int ke, .int tl, .int fsh, .int wi, .int ri, .int fm, .int lm]))]) rfl (fun H locs hPn hDn hSn => ?_))
  clear hP hD hS
  have hP := hPn
  have hD := hDn
  have hS := hSn
  clear hPn hDn hSn
  refine lv_iload_n hx hb dX11_list_5 rfl (lv_at hl 1 rfl) ?_
  refine kS_i (rest := []) hcf (m_X2_known l dC dI cI cS H.size a ) kc_X2_known gX11_list_X2_known rfl rfl ⟨Nat.le_of_ble_eq_true rfl, Nat.le_of_ble_eq_true rfl⟩ kX_t hK hP hD hS hA [] [0, 1, 2, 3, 4] rfl (by decide +kernel) rfl hl rfl (Nat.le_of_ble_eq_true rfl) dX11_list_6 ⟨Nat.le_of_ble_eq_true rfl, Nat.le_of_ble_eq_true rfl⟩ (fun r_1 H locs hB hJ hSn => ?_)
  obtain ⟨⟨hP1, hD1⟩, hf1_0, hf1_1⟩ := hB
  obtain ⟨hPn, hDn⟩ := hJ _ hP1 hD1 [(oX, .inr (11, [.ref nT, .ref nL, .ref nM, .ref oC, .ref oP, .ref oH, .ref oK, .ref oG, .ref oR, .ref oQ, .ref oW, .int (-1)])), (oH, .inr (4, [.ref oP, .ref h1, .ref h2, .int lH])), (h1, .inl (cI, 6, .inl fH1)), (h2, .inl (cI, 6, .inl fH2)), (oW, .inr (1, [.ref oC, .ref oK, .ref nw, .ref w1, .ref w2, .ref w3, .ref o7, .ref o8, .ref o9, .ref w4, .ref w5, .ref w6, .ref w7, .int ke, .int tl, .int fsh, .int wi, .int ri, .int fm, .int lm]))] rfl
  clear hP hD hS hJ hP1 hD1
  have hP := hPn
  have hD := hDn
  have hS := hSn
  clear hPn hDn hSn
  refine lv_if_eq (tgt := 31) hx hb dX11_list_9 (by decide) (fun c_2 => ?_) (fun c_2 => ?_)
  · have tc_2 : r_1.toInt = 0 := v_eq c_2
    refine lv_iconst (v := (-1)) hx hb dX11_list_31 (by decide) ?_
    exact kl_i (v := (-1)) hQQ hx hb hr hlocks hS dX11_list_32 ⟨(-1), lH, fH1, fH2, fsh, ⟨hP, hD⟩, g_lH, g_fsh, Or.inr ⟨rfl, by unfold okc; omega, rfl, rfl, rfl⟩, Or.inl ⟨by first | rfl | omega, rfl⟩⟩
  · have tc_2 : ¬ r_1.toInt = 0 := v_ne c_2
    refine lv_iload_n hx hb dX11_list_12 rfl (lv_at hl 2 rfl) ?_
    refine kS_i (rest := []) hcf (m_X2_known l dC dI cI cS H.size b ) kc_X2_known gX11_list_X2_known rfl rfl ⟨Nat.le_of_ble_eq_true rfl, Nat.le_of_ble_eq_true rfl⟩ kX_t hK hP hD hS hA [] [0, 1, 2, 3, 4] rfl (by decide +kernel) rfl hl rfl (Nat.le_of_ble_eq_true rfl) dX11_list_13 ⟨Nat.le_of_ble_eq_true rfl, Nat.le_of_ble_eq_true rfl⟩ (fun r_3 H locs hB hJ hSn => ?_)
    obtain ⟨⟨hP1, hD1⟩, hf3_0, hf3_1⟩ := hB
    obtain ⟨hPn, hDn⟩ := hJ _ hP1 hD1 [(oX, .inr (11, [.ref nT, .ref nL, .ref nM, .ref oC, .ref oP, .ref oH, .ref oK, .ref oG, .ref oR, .ref oQ, .ref oW, .int (-1)])), (oH, .inr (4, [.ref oP, .ref h1, .ref h2, .int lH])), (h1, .inl (cI, 6, .inl fH1)), (h2, .inl (cI, 6, .inl fH2)), (oW, .inr (1, [.ref oC, .ref oK, .ref nw, .ref w1, .ref w2, .ref w3, .ref o7, .ref o8, .ref o9, .ref w4, .ref w5, .ref w6, .ref w7, .int ke, .int tl, .int fsh, .int wi, .int ri, .int fm, .int lm]))] rfl
    clear hP hD hS hJ hP1 hD1
    have hP := hPn
    have hD := hDn
    have hS := hSn
    clear hPn hDn hSn
    refine lv_if_eq (tgt := 31) hx hb dX11_list_16 (by decide) (fun c_4 => ?_) (fun c_4 => ?_)
    · have tc_4 : r_3.toInt = 0 := v_eq c_4
      refine lv_iconst (v := (-1)) hx hb dX11_list_31 (by decide) ?_
      exact kl_i (v := (-1)) hQQ hx hb hr hlocks hS dX11_list_32 ⟨(-1), lH, fH1, fH2, fsh, ⟨hP, hD⟩, g_lH, g_fsh, Or.inr ⟨rfl, by unfold okc; omega, rfl, rfl, rfl⟩, Or.inl ⟨by first | rfl | omega, rfl⟩⟩
    · have tc_4 : ¬ r_3.toInt = 0 := v_ne c_4
      refine lv_aload_n hx hb dX11_list_19 rfl (lv_at hl 0 rfl) ?_
      refine va_get (D := (dC, dI)) (ci := 11) (v := .ref oH) (C := RX11) (T := TX11) (N := 12) hx hb hts in_X11 hown hK hP 0 rfl rfl 5 (by decide) (hts (.fieldLink RX11 48 "TextMender" "harms" "LTextMender$Harms;") (List.mem_of_getElem? (i := 2) rfl)) (fun _ h9 => h9) rfl dX11_list_20 ?_
      refine lv_iload_n hx hb dX11_list_23 rfl (lv_at hl 1 rfl) ?_
      refine lv_iload_n hx hb dX11_list_24 rfl (lv_at hl 2 rfl) ?_
      refine kV_i (rest := []) (q0 := 0) (ci := 4) hcf (f_X4_tell l dC dI cI cS H.size oH oP h1 h2 lH fH1 fH2 a b (g_lH)) kc_X4_tell gX11_list_X4_tell rfl rfl rfl ⟨Nat.le_of_ble_eq_true rfl, Nat.le_of_ble_eq_true rfl⟩ kX_t hK hP hD hS hA [1, 2, 3] [0, 4] rfl (by decide +kernel) rfl rfl rfl hl rfl (Nat.le_of_ble_eq_true rfl) dX11_list_25 ⟨Nat.le_of_ble_eq_true rfl, Nat.le_of_ble_eq_true rfl⟩ (fun r_5 H locs hB hJ hSn => ?_)
      obtain ⟨lH_5, fH1_5, fH2_5, ⟨hP1, hD1⟩, hf5_0, hf5_1, hf5_2, hf5_3⟩ := hB
      obtain ⟨hPn, hDn⟩ := hJ _ hP1 hD1 [(oX, .inr (11, [.ref nT, .ref nL, .ref nM, .ref oC, .ref oP, .ref oH, .ref oK, .ref oG, .ref oR, .ref oQ, .ref oW, .int (-1)])), (oW, .inr (1, [.ref oC, .ref oK, .ref nw, .ref w1, .ref w2, .ref w3, .ref o7, .ref o8, .ref o9, .ref w4, .ref w5, .ref w6, .ref w7, .int ke, .int tl, .int fsh, .int wi, .int ri, .int fm, .int lm])), (oH, .inr (4, [.ref oP, .ref h1, .ref h2, .int lH_5])), (h1, .inl (cI, 6, .inl fH1_5)), (h2, .inl (cI, 6, .inl fH2_5))] rfl
      clear hP hD hS hJ hP1 hD1
      have hP := hPn
      have hD := hDn
      have hS := hSn
      clear hPn hDn hSn
      refine lv_if_ne (tgt := 33) hx hb dX11_list_28 (by decide) (fun c_6 => ?_) (fun c_6 => ?_)
      · have tc_6 : ¬ r_5.toInt = 0 := v_ne c_6
        refine lv_aload_n hx hb dX11_list_33 rfl (lv_at hl 0 rfl) ?_
        refine va_get (D := (dC, dI)) (ci := 11) (v := .ref oW) (C := RX11) (T := TX11) (N := 12) hx hb hts in_X11 hown hK hP 0 rfl rfl 10 (by decide) (hts (.fieldLink RX11 86 "TextMender" "choiceBook" "LTextMender$Choices;") (List.mem_of_getElem? (i := 3) rfl)) (fun _ h9 => h9) rfl dX11_list_34 ?_
        refine kV_v (rest := []) (q0 := 0) (ci := 1) hcf (f_X1_forgetFreshness l dC dI cI cS H.size oW oC oK nw w1 w2 w3 o7 o8 o9 w4 w5 w6 w7 ke tl fsh wi ri fm lm (g_ke) (g_fsh) (g_fm) (g_lm)) kc_X1_forgetFreshness gX11_list_X1_forgetFreshness rfl rfl rfl ⟨Nat.le_of_ble_eq_true rfl, Nat.le_of_ble_eq_true rfl⟩ kX_t hK hP hD hS hA [1] [0, 2, 3, 4] rfl (by decide +kernel) rfl rfl rfl hl rfl (Nat.le_of_ble_eq_true rfl) dX11_list_37 ⟨Nat.le_of_ble_eq_true rfl, Nat.le_of_ble_eq_true rfl⟩ (fun H locs hB hJ hSn => ?_)
        obtain ⟨fsh_7, ⟨hP1, hD1⟩, hf7_0, hf7_1⟩ := hB
        obtain ⟨hPn, hDn⟩ := hJ _ hP1 hD1 [(oX, .inr (11, [.ref nT, .ref nL, .ref nM, .ref oC, .ref oP, .ref oH, .ref oK, .ref oG, .ref oR, .ref oQ, .ref oW, .int (-1)])), (oH, .inr (4, [.ref oP, .ref h1, .ref h2, .int lH_5])), (h1, .inl (cI, 6, .inl fH1_5)), (h2, .inl (cI, 6, .inl fH2_5)), (oW, .inr (1, [.ref oC, .ref oK, .ref nw, .ref w1, .ref w2, .ref w3, .ref o7, .ref o8, .ref o9, .ref w4, .ref w5, .ref w6, .ref w7, .int ke, .int tl, .int fsh_7, .int wi, .int ri, .int fm, .int lm]))] rfl
        clear hP hD hS hJ hP1 hD1
        have hP := hPn
        have hD := hDn
        have hS := hSn
        clear hPn hDn hSn
        refine lv_aload_n hx hb dX11_list_40 rfl (lv_at hl 0 rfl) ?_
        refine va_get (D := (dC, dI)) (ci := 11) (v := .ref oH) (C := RX11) (T := TX11) (N := 12) hx hb hts in_X11 hown hK hP 0 rfl rfl 5 (by decide) (hts (.fieldLink RX11 48 "TextMender" "harms" "LTextMender$Harms;") (List.mem_of_getElem? (i := 2) rfl)) (fun _ h9 => h9) rfl dX11_list_41 ?_
        refine kV_i (rest := []) (q0 := 0) (ci := 4) hcf (m_X4_length l dC dI cI cS H.size oH oP h1 h2 lH_5 (hf5_0)) kc_X4_length gX11_list_X4_length rfl rfl rfl ⟨Nat.le_of_ble_eq_true rfl, Nat.le_of_ble_eq_true rfl⟩ kX_t hK hP hD hS hA [1] [0, 2, 3, 4] rfl (by decide +kernel) rfl rfl rfl hl rfl (Nat.le_of_ble_eq_true rfl) dX11_list_44 ⟨Nat.le_of_ble_eq_true rfl, Nat.le_of_ble_eq_true rfl⟩ (fun r_8 H locs hB hJ hSn => ?_)
        obtain ⟨⟨hP1, hD1⟩, hf8_0⟩ := hB
        obtain ⟨hPn, hDn⟩ := hJ _ hP1 hD1 [(oX, .inr (11, [.ref nT, .ref nL, .ref nM, .ref oC, .ref oP, .ref oH, .ref oK, .ref oG, .ref oR, .ref oQ, .ref oW, .int (-1)])), (h1, .inl (cI, 6, .inl fH1_5)), (h2, .inl (cI, 6, .inl fH2_5)), (oW, .inr (1, [.ref oC, .ref oK, .ref nw, .ref w1, .ref w2, .ref w3, .ref o7, .ref o8, .ref o9, .ref w4, .ref w5, .ref w6, .ref w7, .int ke, .int tl, .int fsh_7, .int wi, .int ri, .int fm, .int lm])), (oH, .inr (4, [.ref oP, .ref h1, .ref h2, .int lH_5]))] rfl
        clear hP hD hS hJ hP1 hD1
        have hP := hPn
        have hD := hDn
        have hS := hSn
        clear hPn hDn hSn
        rw [hf8_0]
        refine lv_iconst (v := 1) hx hb dX11_list_47 (by decide) ?_
        refine lv_isub hx hb dX11_list_48 ?_
        refine lv_topi (fun x_9 ex_9 => ?_)
        have tx_9 : x_9.toInt = lH_5.toInt - 1 := v_subR (l2 := 1) (h2 := 1) ex_9 hf5_0 (by decide) (by decide) (by decide)
        exact kl_i (v := x_9) hQQ hx hb hr hlocks hS dX11_list_49 ⟨(-1), lH_5, fH1_5, fH2_5, fsh_7, kPD_sub hP hD [0, 4, 1, 2, 3] (by decide +kernel) rfl, hf5_0, hf7_0, F_list_of hf5_3 (by unfold okc; omega) (by unfold okc; omega) (fun _ => by omega) (fun z => by exfalso; have z9 := v_eq z; have e9 : (0 : Int32).toInt = 0 := rfl; omega), Or.inr ⟨by first | decide | omega, hf7_1⟩⟩
      · have tc_6 : r_5.toInt = 0 := v_eq c_6
        refine lv_iconst (v := (-1)) hx hb dX11_list_31 (by decide) ?_
        exact kl_i (v := (-1)) hQQ hx hb hr hlocks hS dX11_list_32 ⟨(-1), lH_5, fH1_5, fH2_5, fsh, kPD_sub hP hD [0, 2, 3, 4, 1] (by decide +kernel) rfl, hf5_0, g_fsh, F_list_of hf5_3 (by unfold okc; omega) (by unfold okc; omega) (fun z => by exfalso; have z9 := v_eq z; have e9 : (1 : Int32).toInt = 1 := rfl; omega) (fun _ => rfl), Or.inl ⟨by first | rfl | omega, rfl⟩⟩

set_option maxHeartbeats 40000000 in
set_option maxRecDepth 100000 in
theorem f_X11_unlist (l : Launch) (dC : Nat → ClassId) (dI : Nat → Nat → Nat) (cI cS : ClassId) (sz : Nat) (oX : Nat) (nT : Nat) (nL : Nat) (nM : Nat) (oC : Nat) (oP : Nat) (oH : Nat) (oK : Nat) (oG : Nat) (oR : Nat) (oQ : Nat) (oW : Nat) (h1 : Nat) (h2 : Nat) (nw : Nat) (w1 : Nat) (w2 : Nat) (w3 : Nat) (o7 : Nat) (o8 : Nat) (o9 : Nat) (w4 : Nat) (w5 : Nat) (w6 : Nat) (w7 : Nat) (fa : Int32) (lH : Int32) (ke : Int32) (tl : Int32) (fsh : Int32) (wi : Int32) (ri : Int32) (fm : Int32) (lm : Int32) (g_lH : 0 ≤ lH.toInt ∧ lH.toInt ≤ 6) (g_ke : 0 ≤ ke.toInt ∧ ke.toInt ≤ 200) (g_fsh : 0 ≤ fsh.toInt ∧ fsh.toInt ≤ 1) (g_fm : -1 ≤ fm.toInt ∧ fm.toInt ≤ 800) (g_lm : -1 ≤ lm.toInt ∧ lm.toInt ≤ 800) : kMi l yX11_unlist wsX11_unlist ({ frames := 1, cells := 0, slots := 0, locals := 20 } : Room) [.ref oX] sz (dC, dI) vwCl [(cI, .int), (cS, .short)] [(oX, .inr (11, [.ref nT, .ref nL, .ref nM, .ref oC, .ref oP, .ref oH, .ref oK, .ref oG, .ref oR, .ref oQ, .ref oW, .int fa])), (oH, .inr (4, [.ref oP, .ref h1, .ref h2, .int lH])), (oW, .inr (1, [.ref oC, .ref oK, .ref nw, .ref w1, .ref w2, .ref w3, .ref o7, .ref o8, .ref o9, .ref w4, .ref w5, .ref w6, .ref w7, .int ke, .int tl, .int fsh, .int wi, .int ri, .int fm, .int lm]))] (fun _ => True) 0 0 (fun (A : Nat → Prop) (r : Int32) (hh9 : Heap) => ∃ (lH' : Int32) (fsh' : Int32), kPD (dC, dI) vwCl A [(oX, .inr (11, [.ref nT, .ref nL, .ref nM, .ref oC, .ref oP, .ref oH, .ref oK, .ref oG, .ref oR, .ref oQ, .ref oW, .int fa])), (oH, .inr (4, [.ref oP, .ref h1, .ref h2, .int lH'])), (oW, .inr (1, [.ref oC, .ref oK, .ref nw, .ref w1, .ref w2, .ref w3, .ref o7, .ref o8, .ref o9, .ref w4, .ref w5, .ref w6, .ref w7, .int ke, .int tl, .int fsh', .int wi, .int ri, .int fm, .int lm]))] hh9 ∧ (0 ≤ lH'.toInt ∧ lH'.toInt ≤ 6) ∧ (0 ≤ fsh'.toInt ∧ fsh'.toInt ≤ 1) ∧ (r = lH) ∧ (lH'.toInt = 0) ∧ (fsh' = 0)) := by
  refine kMi_of (cc := cX11_unlist) (maxL := 2) (ret := (some .int)) (lv := [(0, .ref oX)]) (by decide +kernel) rfl rfl (Nat.le_of_ble_eq_true rfl) ?_
  intro p e s m below meth c A QQ ls hx hb hr hts hml hown hlocks hA hQQ hK hX hP hD hS hl
  have hown : s.vm.findClass RX11 = some m.cls := hown
  have hcf := k_cf hx hb hml hown hts
  have in_X11 : ∀ w ∈ wsX110, w ∈ wsX11_unlist := fun _ h => List.mem_cons_of_mem _ (List.mem_append_left _ (List.mem_append_left _ (List.mem_append_right _ (h))))
  replace g_lH := hid g_lH
  replace g_ke := hid g_ke
  replace g_fsh := hid g_fsh
  replace g_fm := hid g_fm
  replace g_lm := hid g_lm
  refine lv_aload_n hx hb dX11_unlist_0 rfl (lv_at hl 0 rfl) ?_
  refine va_get (D := (dC, dI)) (ci := 11) (v := .ref oH) (C := RX11) (T := TX11) (N := 12) hx hb hts in_X11 hown hK hP 0 rfl rfl 5 (by decide) (hts (.fieldLink RX11 48 "TextMender" "harms" "LTextMender$Harms;") (List.mem_of_getElem? (i := 1) rfl)) (fun _ h9 => h9) rfl dX11_unlist_1 ?_
  refine kV_i (rest := []) (q0 := 0) (ci := 4) hcf (m_X4_length l dC dI cI cS s.heap.size oH oP h1 h2 lH (g_lH)) kc_X4_length gX11_unlist_X4_length rfl rfl rfl ⟨Nat.le_of_ble_eq_true rfl, Nat.le_of_ble_eq_true rfl⟩ kX_t hK hP hD hS hA [1] [0, 2] rfl (by decide +kernel) rfl rfl rfl hl rfl (Nat.le_of_ble_eq_true rfl) dX11_unlist_4 ⟨Nat.le_of_ble_eq_true rfl, Nat.le_of_ble_eq_true rfl⟩ (fun r_1 H locs hB hJ hSn => ?_)
  obtain ⟨⟨hP1, hD1⟩, hf1_0⟩ := hB
  obtain ⟨hPn, hDn⟩ := hJ _ hP1 hD1 [(oX, .inr (11, [.ref nT, .ref nL, .ref nM, .ref oC, .ref oP, .ref oH, .ref oK, .ref oG, .ref oR, .ref oQ, .ref oW, .int fa])), (oW, .inr (1, [.ref oC, .ref oK, .ref nw, .ref w1, .ref w2, .ref w3, .ref o7, .ref o8, .ref o9, .ref w4, .ref w5, .ref w6, .ref w7, .int ke, .int tl, .int fsh, .int wi, .int ri, .int fm, .int lm])), (oH, .inr (4, [.ref oP, .ref h1, .ref h2, .int lH]))] rfl
  clear hP hD hS hJ hP1 hD1
  have hP := hPn
  have hD := hDn
  have hS := hSn
  clear hPn hDn hSn
  rw [hf1_0]
  refine lv_istore_n (lv' := [(1, .int lH), (0, .ref oX)]) hx hb dX11_unlist_7 rfl hl (by decide) rfl (fun ls hl => ?_)
  refine lv_aload_n hx hb dX11_unlist_8 rfl (lv_at hl 1 rfl) ?_
  refine va_get (D := (dC, dI)) (ci := 11) (v := .ref oH) (C := RX11) (T := TX11) (N := 12) hx hb hts in_X11 hown hK hP 0 rfl rfl 5 (by decide) (hts (.fieldLink RX11 48 "TextMender" "harms" "LTextMender$Harms;") (List.mem_of_getElem? (i := 1) rfl)) (fun _ h9 => h9) rfl dX11_unlist_9 ?_
  refine kV_v (rest := []) (q0 := 0) (ci := 4) hcf (m_X4_empty l dC dI cI cS H.size oH oP h1 h2 lH (g_lH)) kc_X4_empty gX11_unlist_X4_empty rfl rfl rfl ⟨Nat.le_of_ble_eq_true rfl, Nat.le_of_ble_eq_true rfl⟩ kX_t hK hP hD hS hA [2] [0, 1] rfl (by decide +kernel) rfl rfl rfl hl rfl (Nat.le_of_ble_eq_true rfl) dX11_unlist_12 ⟨Nat.le_of_ble_eq_true rfl, Nat.le_of_ble_eq_true rfl⟩ (fun H locs hB hJ hSn => ?_)
  obtain ⟨lH_2, ⟨hP1, hD1⟩, hf2_0, hf2_1⟩ := hB
  obtain ⟨hPn, hDn⟩ := hJ _ hP1 hD1 [(oX, .inr (11, [.ref nT, .ref nL, .ref nM, .ref oC, .ref oP, .ref oH, .ref oK, .ref oG, .ref oR, .ref oQ, .ref oW, .int fa])), (oW, .inr (1, [.ref oC, .ref oK, .ref nw, .ref w1, .ref w2, .ref w3, .ref o7, .ref o8, .ref o9, .ref w4, .ref w5, .ref w6, .ref w7, .int ke, .int tl, .int fsh, .int wi, .int ri, .int fm, .int lm])), (oH, .inr (4, [.ref oP, .ref h1, .ref h2, .int lH_2]))] rfl
  clear hP hD hS hJ hP1 hD1
  have hP := hPn
  have hD := hDn
  have hS := hSn
  clear hPn hDn hSn
  have ha2 : lH_2.toInt = 0 := by rw [hf2_1]; rfl
  refine lv_aload_n hx hb dX11_unlist_15 rfl (lv_at hl 1 rfl) ?_
  refine va_get (D := (dC, dI)) (ci := 11) (v := .ref oW) (C := RX11) (T := TX11) (N := 12) hx hb hts in_X11 hown hK hP 0 rfl rfl 10 (by decide) (hts (.fieldLink RX11 86 "TextMender" "choiceBook" "LTextMender$Choices;") (List.mem_of_getElem? (i := 2) rfl)) (fun _ h9 => h9) rfl dX11_unlist_16 ?_
  refine kV_v (rest := []) (q0 := 0) (ci := 1) hcf (f_X1_forgetFreshness l dC dI cI cS H.size oW oC oK nw w1 w2 w3 o7 o8 o9 w4 w5 w6 w7 ke tl fsh wi ri fm lm (g_ke) (g_fsh) (g_fm) (g_lm)) kc_X1_forgetFreshness gX11_unlist_X1_forgetFreshness rfl rfl rfl ⟨Nat.le_of_ble_eq_true rfl, Nat.le_of_ble_eq_true rfl⟩ kX_t hK hP hD hS hA [1] [0, 2] rfl (by decide +kernel) rfl rfl rfl hl rfl (Nat.le_of_ble_eq_true rfl) dX11_unlist_19 ⟨Nat.le_of_ble_eq_true rfl, Nat.le_of_ble_eq_true rfl⟩ (fun H locs hB hJ hSn => ?_)
  obtain ⟨fsh_3, ⟨hP1, hD1⟩, hf3_0, hf3_1⟩ := hB
  obtain ⟨hPn, hDn⟩ := hJ _ hP1 hD1 [(oX, .inr (11, [.ref nT, .ref nL, .ref nM, .ref oC, .ref oP, .ref oH, .ref oK, .ref oG, .ref oR, .ref oQ, .ref oW, .int fa])), (oH, .inr (4, [.ref oP, .ref h1, .ref h2, .int lH_2])), (oW, .inr (1, [.ref oC, .ref oK, .ref nw, .ref w1, .ref w2, .ref w3, .ref o7, .ref o8, .ref o9, .ref w4, .ref w5, .ref w6, .ref w7, .int ke, .int tl, .int fsh_3, .int wi, .int ri, .int fm, .int lm]))] rfl
  clear hP hD hS hJ hP1 hD1
  have hP := hPn
  have hD := hDn
  have hS := hSn
  clear hPn hDn hSn
  refine lv_iload_n hx hb dX11_unlist_22 rfl (lv_at hl 0 rfl) ?_
  exact kl_i (v := lH) hQQ hx hb hr hlocks hS dX11_unlist_23 ⟨lH_2, fsh_3, ⟨hP, hD⟩, hf2_0, hf3_0, rfl, by show lH_2.toInt = 0; omega, hf3_1⟩

set_option maxHeartbeats 40000000 in
set_option maxRecDepth 100000 in
theorem f_X12_list (l : Launch) (dC : Nat → ClassId) (dI : Nat → Nat → Nat) (cI cS : ClassId) (sz : Nat) (oM : Nat) (mT : Nat) (mS : Nat) (mX : Nat) (mL : Nat) (mB : Nat) (mD : Nat) (m1 : Nat) (m2 : Nat) (mR : Nat) (x1 : Nat) (x2 : Nat) (x3 : Nat) (mH : Nat) (mY : Nat) (mE : Nat) (mW : Nat) (mO : Nat) (y1 : Nat) (y2 : Nat) (y3 : Nat) (y4 : Nat) (mZ : Nat) (zt : Int32) (zp : Int32) (zf : Int32) (zh : Int32) (zr : Int32) (zc : Int32) (zy : Int32) (za : Int32) (zb : Int32) (zs : Int32) (zq : Int32) (zw : Int32) (ze : Int32) (zn : Int32) (zm : Int32) (zl : Int32) (zk : Int32) (zd : Int32) (e1 : Nat → Int32) (e2 : Nat → Int32) (a : Int32) (b : Int32) (g_zt : 0 ≤ zt.toInt ∧ zt.toInt ≤ 900) (g_zp : 0 ≤ zp.toInt ∧ zp.toInt ≤ 20) (g_zf : 0 ≤ zf.toInt ∧ zf.toInt ≤ 19) (g_zh : 0 ≤ zh.toInt ∧ zh.toInt ≤ 6) (g_zr : 0 ≤ zr.toInt ∧ zr.toInt ≤ 258) (g_zc : 0 ≤ zc.toInt ∧ zc.toInt ≤ 300) (g_zy : 0 ≤ zy.toInt ∧ zy.toInt ≤ 65536) (g_za : 0 ≤ za.toInt ∧ za.toInt ≤ 5) (g_zb : 0 ≤ zb.toInt ∧ zb.toInt ≤ 5) (g_zs : 0 ≤ zs.toInt ∧ zs.toInt ≤ 2000000) (g_zq : -1 ≤ zq.toInt ∧ zq.toInt ≤ 2000000) (g_zn : 0 ≤ zn.toInt ∧ zn.toInt ≤ 2600) (g_zm : 0 ≤ zm.toInt ∧ zm.toInt ≤ 2600) (g_zk : 0 ≤ zk.toInt ∧ zk.toInt ≤ 300) (g_e1 : rg 0 5 e1) (g_e2 : rg 0 5 e2) (hzs : zs.toInt ≤ 1000000) : kMi l yX12_list wsX12_list ({ frames := 1, cells := 0, slots := 0, locals := 20 } : Room) [.ref oM, .int a, .int b] sz (dC, dI) vwCl [(cI, .int), (cS, .short)] [(oM, .inr (12, [.ref mT, .int zt, .ref mS, .ref mX, .int zp, .int zf, .ref mL, .ref mB, .ref mD, .ref m1, .ref m2, .int zh, .ref mR, .int zr, .ref x1, .ref x2, .ref x3, .int zc, .ref mH, .int zy, .int za, .int zb, .int zs, .int zq, .int zw, .int ze, .ref mY, .int zn, .ref mE, .int zm, .int zl, .ref mW, .int zk, .ref mO, .int zd, .ref y1, .ref y2, .ref y3, .ref y4, .ref mZ])), (m1, .inl (cI, 6, .inl e1)), (m2, .inl (cI, 6, .inl e2))] (fun _ => True) 0 0 (fun (A : Nat → Prop) (r : Int32) (hh9 : Heap) => ∃ (ze' : Int32) (zw' : Int32) (zh' : Int32) (e1' : Nat → Int32) (e2' : Nat → Int32) (zs' : Int32), kPD (dC, dI) vwCl A [(oM, .inr (12, [.ref mT, .int zt, .ref mS, .ref mX, .int zp, .int zf, .ref mL, .ref mB, .ref mD, .ref m1, .ref m2, .int zh', .ref mR, .int zr, .ref x1, .ref x2, .ref x3, .int zc, .ref mH, .int zy, .int za, .int zb, .int zs', .int zq, .int zw', .int ze', .ref mY, .int zn, .ref mE, .int zm, .int zl, .ref mW, .int zk, .ref mO, .int zd, .ref y1, .ref y2, .ref y3, .ref y4, .ref mZ])), (m1, .inl (cI, 6, .inl e1')), (m2, .inl (cI, 6, .inl e2'))] hh9 ∧ (0 ≤ zh'.toInt ∧ zh'.toInt ≤ 6) ∧ (rg 0 5 e1') ∧ (rg 0 5 e2') ∧ (0 ≤ zs'.toInt ∧ zs'.toInt ≤ 2000000) ∧ (zs'.toInt ≤ zs.toInt + 1 ∧ zs.toInt ≤ zs'.toInt) ∧ (F_list zh zh' r a b e1 e1' e2 e2') ∧ (F_zs (-1) r zs zs')) := by
  refine kMi_of (cc := cX12_list) (maxL := 4) (ret := (some .int)) (lv := [(0, .ref oM), (1, .int a), (2, .int b)]) (by decide +kernel) rfl rfl (Nat.le_of_ble_eq_true rfl) ?_
  intro p e s m below meth c A QQ ls hx hb hr hts hml hown hlocks hA hQQ hK hX hP hD hS hl
  have hown : s.vm.findClass RX12 = some m.cls := hown
  have hcf := k_cf hx hb hml hown hts
  have in_X12 : ∀ w ∈ wsX120, w ∈ wsX12_list := fun _ h => List.mem_cons_of_mem _ (List.mem_append_right _ (h))
  refine lv_aload_n hx hb dX12_list_0 rfl (lv_at hl 0 rfl) ?_
  refine lv_iconst (v := 0) hx hb dX12_list_1 (by decide) ?_
  refine va_put (D := (dC, dI)) (ci := 12) (v := .int 0) (ty := .int) (C := RX12) (T := TX12) (N := 40) hx hb hts in_X12 tyX12 tyX12_ok nmX12 hown hK hP hD hS 0 rfl rfl 25 (by decide) (hts (.fieldLink RX12 85 "TextMenderModel" "thrown" "I") (List.mem_of_getElem? (i := 1) rfl)) (fun _ h9 => h9) rfl (by decide +kernel) rfl rfl (Nat.le_of_ble_eq_true rfl) dX12_list_2 (kW (wn := [(oM, .inr (12, [.ref mT, .int zt, .ref mS, .ref mX, .int zp, .int zf, .ref mL, .ref mB, .ref mD, .ref m1, .ref m2, .int zh, .ref mR, .int zr, .ref x1, .ref x2, .ref x3, .int zc, .ref mH, .int zy, .int za, .int zb, .int zs, .int zq, .int zw, .int 0, .ref mY, .int zn, .ref mE, .int zm, .int zl, .ref mW, .int zk, .ref mO, .int zd, .ref y1, .ref y2, .ref y3, .ref y4, .ref mZ])), (m1, .inl (cI, 6, .inl e1)), (m2, .inl (cI, 6, .inl e2))]) rfl (fun H locs hPn hDn hSn => ?_))
  clear hP hD hS
  have hP := hPn
  have hD := hDn
  have hS := hSn
  clear hPn hDn hSn
  refine lv_aload_n hx hb dX12_list_5 rfl (lv_at hl 0 rfl) ?_
  refine lv_iconst (v := (-1)) hx hb dX12_list_6 (by decide) ?_
  refine va_put (D := (dC, dI)) (ci := 12) (v := .int (-1)) (ty := .int) (C := RX12) (T := TX12) (N := 40) hx hb hts in_X12 tyX12 tyX12_ok nmX12 hown hK hP hD hS 0 rfl rfl 24 (by decide) (hts (.fieldLink RX12 55 "TextMenderModel" "where" "I") (List.mem_of_getElem? (i := 2) rfl)) (fun _ h9 => h9) rfl (by decide +kernel) rfl rfl (Nat.le_of_ble_eq_true rfl) dX12_list_7 (kW (wn := [(oM, .inr (12, [.ref mT, .int zt, .ref mS, .ref mX, .int zp, .int zf, .ref mL, .ref mB, .ref mD, .ref m1, .ref m2, .int zh, .ref mR, .int zr, .ref x1, .ref x2, .ref x3, .int zc, .ref mH, .int zy, .int za, .int zb, .int zs, .int zq, .int (-1), .int 0, .ref mY, .int zn, .ref mE, .int zm, .int zl, .ref mW, .int zk, .ref mO, .int zd, .ref y1, .ref y2, .ref y3, .ref y4, .ref mZ])), (m1, .inl (cI, 6, .inl e1)), (m2, .inl (cI, 6, .inl e2))]) rfl (fun H locs hPn hDn hSn => ?_))
  clear hP hD hS
  have hP := hPn
  have hD := hDn
  have hS := hSn
  clear hPn hDn hSn
  refine lv_iload_n hx hb dX12_list_10 rfl (lv_at hl 1 rfl) ?_
  refine kS_i (rest := []) hcf (m_X12_isCode l dC dI cI cS H.size a ) kc_X12_isCode gX12_list_X12_isCode rfl rfl ⟨Nat.le_of_ble_eq_true rfl, Nat.le_of_ble_eq_true rfl⟩ kX_t hK hP hD hS hA [] [0, 1, 2] rfl (by decide +kernel) rfl hl rfl (Nat.le_of_ble_eq_true rfl) dX12_list_11 ⟨Nat.le_of_ble_eq_true rfl, Nat.le_of_ble_eq_true rfl⟩ (fun r_1 H locs hB hJ hSn => ?_)
  obtain ⟨⟨hP1, hD1⟩, hf1_0, hf1_1⟩ := hB
  obtain ⟨hPn, hDn⟩ := hJ _ hP1 hD1 [(oM, .inr (12, [.ref mT, .int zt, .ref mS, .ref mX, .int zp, .int zf, .ref mL, .ref mB, .ref mD, .ref m1, .ref m2, .int zh, .ref mR, .int zr, .ref x1, .ref x2, .ref x3, .int zc, .ref mH, .int zy, .int za, .int zb, .int zs, .int zq, .int (-1), .int 0, .ref mY, .int zn, .ref mE, .int zm, .int zl, .ref mW, .int zk, .ref mO, .int zd, .ref y1, .ref y2, .ref y3, .ref y4, .ref mZ])), (m1, .inl (cI, 6, .inl e1)), (m2, .inl (cI, 6, .inl e2))] rfl
  clear hP hD hS hJ hP1 hD1
  have hP := hPn
  have hD := hDn
  have hS := hSn
  clear hPn hDn hSn
  refine lv_if_eq (tgt := 33) hx hb dX12_list_14 (by decide) (fun c_2 => ?_) (fun c_2 => ?_)
  · have tc_2 : r_1.toInt = 0 := v_eq c_2
    refine lv_iconst (v := (-1)) hx hb dX12_list_33 (by decide) ?_
    exact kl_i (v := (-1)) hQQ hx hb hr hlocks hS dX12_list_34 ⟨0, (-1), zh, e1, e2, zs, ⟨hP, hD⟩, g_zh, g_e1, g_e2, g_zs, by show zs.toInt ≤ zs.toInt + 1 ∧ zs.toInt ≤ zs.toInt; omega, Or.inr ⟨rfl, by unfold okc; omega, rfl, rfl, rfl⟩, by first | exact Or.inl ⟨by first | rfl | omega, rfl⟩ | exact Or.inr ⟨by first | decide | omega, by omega⟩⟩
  · have tc_2 : ¬ r_1.toInt = 0 := v_ne c_2
    refine lv_iload_n hx hb dX12_list_17 rfl (lv_at hl 2 rfl) ?_
    refine kS_i (rest := []) hcf (m_X12_isCode l dC dI cI cS H.size b ) kc_X12_isCode gX12_list_X12_isCode rfl rfl ⟨Nat.le_of_ble_eq_true rfl, Nat.le_of_ble_eq_true rfl⟩ kX_t hK hP hD hS hA [] [0, 1, 2] rfl (by decide +kernel) rfl hl rfl (Nat.le_of_ble_eq_true rfl) dX12_list_18 ⟨Nat.le_of_ble_eq_true rfl, Nat.le_of_ble_eq_true rfl⟩ (fun r_3 H locs hB hJ hSn => ?_)
    obtain ⟨⟨hP1, hD1⟩, hf3_0, hf3_1⟩ := hB
    obtain ⟨hPn, hDn⟩ := hJ _ hP1 hD1 [(oM, .inr (12, [.ref mT, .int zt, .ref mS, .ref mX, .int zp, .int zf, .ref mL, .ref mB, .ref mD, .ref m1, .ref m2, .int zh, .ref mR, .int zr, .ref x1, .ref x2, .ref x3, .int zc, .ref mH, .int zy, .int za, .int zb, .int zs, .int zq, .int (-1), .int 0, .ref mY, .int zn, .ref mE, .int zm, .int zl, .ref mW, .int zk, .ref mO, .int zd, .ref y1, .ref y2, .ref y3, .ref y4, .ref mZ])), (m1, .inl (cI, 6, .inl e1)), (m2, .inl (cI, 6, .inl e2))] rfl
    clear hP hD hS hJ hP1 hD1
    have hP := hPn
    have hD := hDn
    have hS := hSn
    clear hPn hDn hSn
    refine lv_if_eq (tgt := 33) hx hb dX12_list_21 (by decide) (fun c_4 => ?_) (fun c_4 => ?_)
    · have tc_4 : r_3.toInt = 0 := v_eq c_4
      refine lv_iconst (v := (-1)) hx hb dX12_list_33 (by decide) ?_
      exact kl_i (v := (-1)) hQQ hx hb hr hlocks hS dX12_list_34 ⟨0, (-1), zh, e1, e2, zs, ⟨hP, hD⟩, g_zh, g_e1, g_e2, g_zs, by show zs.toInt ≤ zs.toInt + 1 ∧ zs.toInt ≤ zs.toInt; omega, Or.inr ⟨rfl, by unfold okc; omega, rfl, rfl, rfl⟩, by first | exact Or.inl ⟨by first | rfl | omega, rfl⟩ | exact Or.inr ⟨by first | decide | omega, by omega⟩⟩
    · have tc_4 : ¬ r_3.toInt = 0 := v_ne c_4
      refine lv_aload_n hx hb dX12_list_24 rfl (lv_at hl 0 rfl) ?_
      refine va_get (D := (dC, dI)) (ci := 12) (v := .int zh) (C := RX12) (T := TX12) (N := 40) hx hb hts in_X12 hown hK hP 0 rfl rfl 11 (by decide) (hts (.fieldLink RX12 161 "TextMenderModel" "harms" "I") (List.mem_of_getElem? (i := 3) rfl)) (fun _ h9 => h9) rfl dX12_list_25 ?_
      refine lv_bipush (v := 6) hx hb dX12_list_28 (by decide) ?_
      refine lv_icmp_ne (tgt := 35) hx hb dX12_list_30 (by decide) (fun c_5 => ?_) (fun c_5 => ?_)
      · have tc_5 : ¬ zh.toInt = 6 := v_ne c_5
        refine lv_iconst (v := 0) hx hb dX12_list_35 (by decide) ?_
        refine lv_istore_n (lv' := [(3, .int 0), (0, .ref oM), (1, .int a), (2, .int b)]) hx hb dX12_list_36 rfl hl (by decide) rfl (fun ls hl => ?_)
        have LOOP_37 : ∀ (k_37 : Nat) (k : Int32) (H : Heap) (locs : List Loc) (ls : Array Slot), MSd (6 - k.toInt : Int) k_37 → (0 ≤ k.toInt ∧ k.toInt ≤ 6) → (noP k.toInt a b e1 e2) → (k.toInt ≤ zh.toInt) → va_P (dC, dI) vwCl [(oM, .inr (12, [.ref mT, .int zt, .ref mS, .ref mX, .int zp, .int zf, .ref mL, .ref mB, .ref mD, .ref m1, .ref m2, .int zh, .ref mR, .int zr, .ref x1, .ref x2, .ref x3, .int zc, .ref mH, .int zy, .int za, .int zb, .int zs, .int zq, .int (-1), .int 0, .ref mY, .int zn, .ref mE, .int zm, .int zl, .ref mW, .int zk, .ref mO, .int zd, .ref y1, .ref y2, .ref y3, .ref y4, .ref mZ])), (m1, .inl (cI, 6, .inl e1)), (m2, .inl (cI, 6, .inl e2))] H → va_D A [(oM, .inr (12, [.ref mT, .int zt, .ref mS, .ref mX, .int zp, .int zf, .ref mL, .ref mB, .ref mD, .ref m1, .ref m2, .int zh, .ref mR, .int zr, .ref x1, .ref x2, .ref x3, .int zc, .ref mH, .int zy, .int za, .int zb, .int zs, .int zq, .int (-1), .int 0, .ref mY, .int zn, .ref mE, .int zm, .int zl, .ref mW, .int zk, .ref mO, .int zd, .ref y1, .ref y2, .ref y3, .ref y4, .ref mZ])), (m1, .inl (cI, 6, .inl e1)), (m2, .inl (cI, 6, .inl e2))] → va_S A s.heap H locs → lv_has ls 4 [(3, .int k), (0, .ref oM), (1, .int a), (2, .int b)] → W p l e (headSpec wsX12_list ({ frames := 1, cells := 0, slots := 0, locals := 20 } : Room)).room s m ([.ref oM, .int a, .int b] : List Value).toArray below meth c H locs 0 0 (MQ below QQ ([.ref oM, .int a, .int b] : List Value).toArray s 0 0 A) (F0 m 37 ls []) := by
          clear hP hD hS hl
          intro k_37
          induction k_37 with
          | zero =>
            intro k H locs ls hm_37 g_k hno hkz hP hD hS hl
            exact ms_0 hm_37
          | succ k_37 ih_37 =>
            intro k H locs ls hm_37 g_k hno hkz hP hD hS hl
            refine lv_iload_n hx hb dX12_list_37 rfl (lv_at hl 0 rfl) ?_
            refine lv_aload_n hx hb dX12_list_38 rfl (lv_at hl 1 rfl) ?_
            refine va_get (D := (dC, dI)) (ci := 12) (v := .int zh) (C := RX12) (T := TX12) (N := 40) hx hb hts in_X12 hown hK hP 0 rfl rfl 11 (by decide) (hts (.fieldLink RX12 161 "TextMenderModel" "harms" "I") (List.mem_of_getElem? (i := 3) rfl)) (fun _ h9 => h9) rfl dX12_list_39 ?_
            refine lv_icmp_ge (tgt := 73) hx hb dX12_list_42 (by decide) (fun c_6 => ?_) (fun c_6 => ?_)
            · have tc_6 : zh.toInt ≤ k.toInt := v_le c_6
              refine lv_aload_n hx hb dX12_list_73 rfl (lv_at hl 1 rfl) ?_
              refine va_get (D := (dC, dI)) (ci := 12) (v := .ref m1) (C := RX12) (T := TX12) (N := 40) hx hb hts in_X12 hown hK hP 0 rfl rfl 9 (by decide) (hts (.fieldLink RX12 30 "TextMenderModel" "harmA" "[I") (List.mem_of_getElem? (i := 4) rfl)) (fun _ h9 => h9) rfl dX12_list_74 ?_
              refine lv_aload_n hx hb dX12_list_77 rfl (lv_at hl 1 rfl) ?_
              refine va_get (D := (dC, dI)) (ci := 12) (v := .int zh) (C := RX12) (T := TX12) (N := 40) hx hb hts in_X12 hown hK hP 0 rfl rfl 11 (by decide) (hts (.fieldLink RX12 161 "TextMenderModel" "harms" "I") (List.mem_of_getElem? (i := 3) rfl)) (fun _ h9 => h9) rfl dX12_list_78 ?_
              refine lv_iload_n hx hb dX12_list_81 rfl (lv_at hl 2 rfl) ?_
              obtain ⟨f_7, ef_7⟩ : ∃ g : Nat → Int32, g = upd e1 (zh : Int32).toNatClampNeg a := ⟨_, rfl⟩
              refine va_iast hx hb hK hP hD hS 1 0 rfl rfl (v_in (by omega)) dX12_list_82 (kWf (g := f_7) (F := fun f_7 => [(oM, .inr (12, [.ref mT, .int zt, .ref mS, .ref mX, .int zp, .int zf, .ref mL, .ref mB, .ref mD, .ref m1, .ref m2, .int zh, .ref mR, .int zr, .ref x1, .ref x2, .ref x3, .int zc, .ref mH, .int zy, .int za, .int zb, .int zs, .int zq, .int (-1), .int 0, .ref mY, .int zn, .ref mE, .int zm, .int zl, .ref mW, .int zk, .ref mO, .int zd, .ref y1, .ref y2, .ref y3, .ref y4, .ref mZ])), (m1, .inl (cI, 6, .inl f_7)), (m2, .inl (cI, 6, .inl e2))]) ef_7 rfl (fun H locs hPn hDn hSn => ?_))
              clear hP hD hS
              have hP := hPn
              have hD := hDn
              have hS := hSn
              clear hPn hDn hSn
              have g_f7 : rg 0 5 f_7 := rg_upd ef_7 g_e1 (by omega)
              refine lv_aload_n hx hb dX12_list_83 rfl (lv_at hl 1 rfl) ?_
              refine va_get (D := (dC, dI)) (ci := 12) (v := .ref m2) (C := RX12) (T := TX12) (N := 40) hx hb hts in_X12 hown hK hP 0 rfl rfl 10 (by decide) (hts (.fieldLink RX12 33 "TextMenderModel" "harmB" "[I") (List.mem_of_getElem? (i := 5) rfl)) (fun _ h9 => h9) rfl dX12_list_84 ?_
              refine lv_aload_n hx hb dX12_list_87 rfl (lv_at hl 1 rfl) ?_
              refine va_get (D := (dC, dI)) (ci := 12) (v := .int zh) (C := RX12) (T := TX12) (N := 40) hx hb hts in_X12 hown hK hP 0 rfl rfl 11 (by decide) (hts (.fieldLink RX12 161 "TextMenderModel" "harms" "I") (List.mem_of_getElem? (i := 3) rfl)) (fun _ h9 => h9) rfl dX12_list_88 ?_
              refine lv_iload_n hx hb dX12_list_91 rfl (lv_at hl 3 rfl) ?_
              obtain ⟨f_8, ef_8⟩ : ∃ g : Nat → Int32, g = upd e2 (zh : Int32).toNatClampNeg b := ⟨_, rfl⟩
              refine va_iast hx hb hK hP hD hS 2 0 rfl rfl (v_in (by omega)) dX12_list_92 (kWf (g := f_8) (F := fun f_8 => [(oM, .inr (12, [.ref mT, .int zt, .ref mS, .ref mX, .int zp, .int zf, .ref mL, .ref mB, .ref mD, .ref m1, .ref m2, .int zh, .ref mR, .int zr, .ref x1, .ref x2, .ref x3, .int zc, .ref mH, .int zy, .int za, .int zb, .int zs, .int zq, .int (-1), .int 0, .ref mY, .int zn, .ref mE, .int zm, .int zl, .ref mW, .int zk, .ref mO, .int zd, .ref y1, .ref y2, .ref y3, .ref y4, .ref mZ])), (m1, .inl (cI, 6, .inl f_7)), (m2, .inl (cI, 6, .inl f_8))]) ef_8 rfl (fun H locs hPn hDn hSn => ?_))
              clear hP hD hS
              have hP := hPn
              have hD := hDn
              have hS := hSn
              clear hPn hDn hSn
              have g_f8 : rg 0 5 f_8 := rg_upd ef_8 g_e2 (by omega)
              refine lv_aload_n hx hb dX12_list_93 rfl (lv_at hl 1 rfl) ?_
              refine lv_dup hx hb dX12_list_94 rfl ?_
              refine va_get (D := (dC, dI)) (ci := 12) (v := .int zh) (C := RX12) (T := TX12) (N := 40) hx hb hts in_X12 hown hK hP 0 rfl rfl 11 (by decide) (hts (.fieldLink RX12 161 "TextMenderModel" "harms" "I") (List.mem_of_getElem? (i := 3) rfl)) (fun _ h9 => h9) rfl dX12_list_95 ?_
              refine lv_iconst (v := 1) hx hb dX12_list_98 (by decide) ?_
              refine lv_iadd hx hb dX12_list_99 ?_
              refine lv_topi (fun x_9 ex_9 => ?_)
              have tx_9 : x_9.toInt = zh.toInt + 1 := v_addR (l2 := 1) (h2 := 1) ex_9 g_zh (by decide) (by decide) (by decide)
              refine va_put (D := (dC, dI)) (ci := 12) (v := .int x_9) (ty := .int) (C := RX12) (T := TX12) (N := 40) hx hb hts in_X12 tyX12 tyX12_ok nmX12 hown hK hP hD hS 0 rfl rfl 11 (by decide) (hts (.fieldLink RX12 161 "TextMenderModel" "harms" "I") (List.mem_of_getElem? (i := 3) rfl)) (fun _ h9 => h9) rfl (by decide +kernel) rfl rfl (Nat.le_of_ble_eq_true rfl) dX12_list_100 (kW (wn := [(oM, .inr (12, [.ref mT, .int zt, .ref mS, .ref mX, .int zp, .int zf, .ref mL, .ref mB, .ref mD, .ref m1, .ref m2, .int x_9, .ref mR, .int zr, .ref x1, .ref x2, .ref x3, .int zc, .ref mH, .int zy, .int za, .int zb, .int zs, .int zq, .int (-1), .int 0, .ref mY, .int zn, .ref mE, .int zm, .int zl, .ref mW, .int zk, .ref mO, .int zd, .ref y1, .ref y2, .ref y3, .ref y4, .ref mZ])), (m1, .inl (cI, 6, .inl f_7)), (m2, .inl (cI, 6, .inl f_8))]) rfl (fun H locs hPn hDn hSn => ?_))
              clear hP hD hS
              have hP := hPn
              have hD := hDn
              have hS := hSn
              clear hPn hDn hSn
              refine lv_aload_n hx hb dX12_list_103 rfl (lv_at hl 1 rfl) ?_
              refine lv_dup hx hb dX12_list_104 rfl ?_
              refine va_get (D := (dC, dI)) (ci := 12) (v := .int zs) (C := RX12) (T := TX12) (N := 40) hx hb hts in_X12 hown hK hP 0 rfl rfl 22 (by decide) (hts (.fieldLink RX12 148 "TextMenderModel" "state" "I") (List.mem_of_getElem? (i := 6) rfl)) (fun _ h9 => h9) rfl dX12_list_105 ?_
              refine lv_iconst (v := 1) hx hb dX12_list_108 (by decide) ?_
              refine lv_iadd hx hb dX12_list_109 ?_
              refine lv_topi (fun x_10 ex_10 => ?_)
              have tx_10 : x_10.toInt = zs.toInt + 1 := v_addR (l2 := 1) (h2 := 1) ex_10 g_zs (by decide) (by decide) (by decide)
              refine va_put (D := (dC, dI)) (ci := 12) (v := .int x_10) (ty := .int) (C := RX12) (T := TX12) (N := 40) hx hb hts in_X12 tyX12 tyX12_ok nmX12 hown hK hP hD hS 0 rfl rfl 22 (by decide) (hts (.fieldLink RX12 148 "TextMenderModel" "state" "I") (List.mem_of_getElem? (i := 6) rfl)) (fun _ h9 => h9) rfl (by decide +kernel) rfl rfl (Nat.le_of_ble_eq_true rfl) dX12_list_110 (kW (wn := [(oM, .inr (12, [.ref mT, .int zt, .ref mS, .ref mX, .int zp, .int zf, .ref mL, .ref mB, .ref mD, .ref m1, .ref m2, .int x_9, .ref mR, .int zr, .ref x1, .ref x2, .ref x3, .int zc, .ref mH, .int zy, .int za, .int zb, .int x_10, .int zq, .int (-1), .int 0, .ref mY, .int zn, .ref mE, .int zm, .int zl, .ref mW, .int zk, .ref mO, .int zd, .ref y1, .ref y2, .ref y3, .ref y4, .ref mZ])), (m1, .inl (cI, 6, .inl f_7)), (m2, .inl (cI, 6, .inl f_8))]) rfl (fun H locs hPn hDn hSn => ?_))
              clear hP hD hS
              have hP := hPn
              have hD := hDn
              have hS := hSn
              clear hPn hDn hSn
              refine lv_aload_n hx hb dX12_list_113 rfl (lv_at hl 1 rfl) ?_
              refine va_get (D := (dC, dI)) (ci := 12) (v := .int x_9) (C := RX12) (T := TX12) (N := 40) hx hb hts in_X12 hown hK hP 0 rfl rfl 11 (by decide) (hts (.fieldLink RX12 161 "TextMenderModel" "harms" "I") (List.mem_of_getElem? (i := 3) rfl)) (fun _ h9 => h9) rfl dX12_list_114 ?_
              refine lv_iconst (v := 1) hx hb dX12_list_117 (by decide) ?_
              refine lv_isub hx hb dX12_list_118 ?_
              refine lv_topi (fun x_11 ex_11 => ?_)
              have tx_11 : x_11.toInt = x_9.toInt - 1 := v_subR (l2 := 1) (h2 := 1) ex_11 (v_sumR (l := 1) (h := 7) (l2 := 1) (h2 := 1) tx_9 g_zh (by decide) (by decide) (by decide)) (by decide) (by decide) (by decide)
              exact kl_i (v := x_11) hQQ hx hb hr hlocks hS dX12_list_119 ⟨0, (-1), x_9, f_7, f_8, x_10, ⟨hP, hD⟩, by omega, g_f7, g_f8, by omega, by show x_10.toInt ≤ zs.toInt + 1 ∧ zs.toInt ≤ x_10.toInt; omega, Or.inl ⟨by unfold okc; omega, by unfold okc; omega, by omega, fun j hj => hno j (by omega), by omega, by omega, ef_7, ef_8⟩, by first | exact Or.inl ⟨by first | rfl | omega, rfl⟩ | exact Or.inr ⟨by first | decide | omega, by omega⟩⟩
            · have tc_6 : k.toInt < zh.toInt := v_nle c_6
              refine lv_aload_n hx hb dX12_list_45 rfl (lv_at hl 1 rfl) ?_
              refine va_get (D := (dC, dI)) (ci := 12) (v := .ref m1) (C := RX12) (T := TX12) (N := 40) hx hb hts in_X12 hown hK hP 0 rfl rfl 9 (by decide) (hts (.fieldLink RX12 30 "TextMenderModel" "harmA" "[I") (List.mem_of_getElem? (i := 4) rfl)) (fun _ h9 => h9) rfl dX12_list_46 ?_
              refine lv_iload_n hx hb dX12_list_49 rfl (lv_at hl 0 rfl) ?_
              refine va_iald hx hb hK hP 1 0 rfl rfl (v_in (by omega)) dX12_list_50 ?_
              refine lv_topi (fun x_12 ex_12 => ?_)
              have tx_12 : 0 ≤ x_12.toInt ∧ x_12.toInt ≤ 5 := rg_at g_e1 ex_12
              refine lv_iload_n hx hb dX12_list_51 rfl (lv_at hl 2 rfl) ?_
              refine lv_icmp_ne (tgt := 67) hx hb dX12_list_52 (by decide) (fun c_13 => ?_) (fun c_13 => ?_)
              · have tc_13 : ¬ x_12.toInt = a.toInt := v_ne c_13
                obtain ⟨x_14, ex_14⟩ : ∃ y : Int32, y = k + 1 := ⟨_, rfl⟩
                have tx_14 : x_14.toInt = k.toInt + 1 := v_addR (l2 := 1) (h2 := 1) ex_14 g_k (by decide) (by decide) (by decide)
                refine lv_iinc (v := x_14) (lv' := [(3, .int x_14), (0, .ref oM), (1, .int a), (2, .int b)]) hx hb dX12_list_67 hl (k := 0) rfl (by rw [ex_14]; rfl) (by decide) rfl (fun ls hl => ?_)
                refine lv_goto (tgt := 37) hx hb dX12_list_70 (by decide) ?_
                exact ih_37 x_14 _ _ _ (ms_lt hm_37 (by show ((6 - x_14.toInt : Int)) < 6 - k.toInt; omega) (by show (0 : Int) < 6 - k.toInt; omega)) (by show 0 ≤ x_14.toInt ∧ x_14.toInt ≤ 6; omega) (noP_s1 hno ex_12 c_13 (by omega) (by omega)) (by show x_14.toInt ≤ zh.toInt; omega) hP hD hS (lv_sub hl [0, 1, 2, 3] rfl)
              · have tc_13 : x_12.toInt = a.toInt := v_eq c_13
                refine lv_aload_n hx hb dX12_list_55 rfl (lv_at hl 1 rfl) ?_
                refine va_get (D := (dC, dI)) (ci := 12) (v := .ref m2) (C := RX12) (T := TX12) (N := 40) hx hb hts in_X12 hown hK hP 0 rfl rfl 10 (by decide) (hts (.fieldLink RX12 33 "TextMenderModel" "harmB" "[I") (List.mem_of_getElem? (i := 5) rfl)) (fun _ h9 => h9) rfl dX12_list_56 ?_
                refine lv_iload_n hx hb dX12_list_59 rfl (lv_at hl 0 rfl) ?_
                refine va_iald hx hb hK hP 2 0 rfl rfl (v_in (by omega)) dX12_list_60 ?_
                refine lv_topi (fun x_15 ex_15 => ?_)
                have tx_15 : 0 ≤ x_15.toInt ∧ x_15.toInt ≤ 5 := rg_at g_e2 ex_15
                refine lv_iload_n hx hb dX12_list_61 rfl (lv_at hl 3 rfl) ?_
                refine lv_icmp_ne (tgt := 67) hx hb dX12_list_62 (by decide) (fun c_16 => ?_) (fun c_16 => ?_)
                · have tc_16 : ¬ x_15.toInt = b.toInt := v_ne c_16
                  obtain ⟨x_17, ex_17⟩ : ∃ y : Int32, y = k + 1 := ⟨_, rfl⟩
                  have tx_17 : x_17.toInt = k.toInt + 1 := v_addR (l2 := 1) (h2 := 1) ex_17 g_k (by decide) (by decide) (by decide)
                  refine lv_iinc (v := x_17) (lv' := [(3, .int x_17), (0, .ref oM), (1, .int a), (2, .int b)]) hx hb dX12_list_67 hl (k := 0) rfl (by rw [ex_17]; rfl) (by decide) rfl (fun ls hl => ?_)
                  refine lv_goto (tgt := 37) hx hb dX12_list_70 (by decide) ?_
                  exact ih_37 x_17 _ _ _ (ms_lt hm_37 (by show ((6 - x_17.toInt : Int)) < 6 - k.toInt; omega) (by show (0 : Int) < 6 - k.toInt; omega)) (by show 0 ≤ x_17.toInt ∧ x_17.toInt ≤ 6; omega) (noP_s2 hno ex_15 c_16 (by omega) (by omega)) (by show x_17.toInt ≤ zh.toInt; omega) hP hD hS (lv_sub hl [0, 1, 2, 3] rfl)
                · have tc_16 : x_15.toInt = b.toInt := v_eq c_16
                  refine lv_iconst (v := (-1)) hx hb dX12_list_65 (by decide) ?_
                  exact kl_i (v := (-1)) hQQ hx hb hr hlocks hS dX12_list_66 ⟨0, (-1), zh, e1, e2, zs, ⟨hP, hD⟩, g_zh, g_e1, g_e2, g_zs, by show zs.toInt ≤ zs.toInt + 1 ∧ zs.toInt ≤ zs.toInt; omega, Or.inr ⟨rfl, Or.inr (Or.inr (Or.inr (isP_at ex_12 ex_15 c_13 c_16 (by omega) (by omega)))), rfl, rfl, rfl⟩, by first | exact Or.inl ⟨by first | rfl | omega, rfl⟩ | exact Or.inr ⟨by first | decide | omega, by omega⟩⟩
        exact LOOP_37 _ 0 _ _ _ (ms_s _) (by decide) (noP_0 (by decide)) (by show 0 ≤ zh.toInt; omega) hP hD hS (lv_sub hl [0, 1, 2, 3] rfl)
      · have tc_5 : zh.toInt = 6 := v_eq c_5
        refine lv_iconst (v := (-1)) hx hb dX12_list_33 (by decide) ?_
        exact kl_i (v := (-1)) hQQ hx hb hr hlocks hS dX12_list_34 ⟨0, (-1), zh, e1, e2, zs, ⟨hP, hD⟩, g_zh, g_e1, g_e2, g_zs, by show zs.toInt ≤ zs.toInt + 1 ∧ zs.toInt ≤ zs.toInt; omega, Or.inr ⟨rfl, by unfold okc; omega, rfl, rfl, rfl⟩, by first | exact Or.inl ⟨by first | rfl | omega, rfl⟩ | exact Or.inr ⟨by first | decide | omega, by omega⟩⟩

set_option maxHeartbeats 40000000 in
set_option maxRecDepth 100000 in
theorem f_X12_unlist (l : Launch) (dC : Nat → ClassId) (dI : Nat → Nat → Nat) (cI cS : ClassId) (sz : Nat) (oM : Nat) (mT : Nat) (mS : Nat) (mX : Nat) (mL : Nat) (mB : Nat) (mD : Nat) (m1 : Nat) (m2 : Nat) (mR : Nat) (x1 : Nat) (x2 : Nat) (x3 : Nat) (mH : Nat) (mY : Nat) (mE : Nat) (mW : Nat) (mO : Nat) (y1 : Nat) (y2 : Nat) (y3 : Nat) (y4 : Nat) (mZ : Nat) (zt : Int32) (zp : Int32) (zf : Int32) (zh : Int32) (zr : Int32) (zc : Int32) (zy : Int32) (za : Int32) (zb : Int32) (zs : Int32) (zq : Int32) (zw : Int32) (ze : Int32) (zn : Int32) (zm : Int32) (zl : Int32) (zk : Int32) (zd : Int32) (g_zt : 0 ≤ zt.toInt ∧ zt.toInt ≤ 900) (g_zp : 0 ≤ zp.toInt ∧ zp.toInt ≤ 20) (g_zf : 0 ≤ zf.toInt ∧ zf.toInt ≤ 19) (g_zh : 0 ≤ zh.toInt ∧ zh.toInt ≤ 6) (g_zr : 0 ≤ zr.toInt ∧ zr.toInt ≤ 258) (g_zc : 0 ≤ zc.toInt ∧ zc.toInt ≤ 300) (g_zy : 0 ≤ zy.toInt ∧ zy.toInt ≤ 65536) (g_za : 0 ≤ za.toInt ∧ za.toInt ≤ 5) (g_zb : 0 ≤ zb.toInt ∧ zb.toInt ≤ 5) (g_zs : 0 ≤ zs.toInt ∧ zs.toInt ≤ 2000000) (g_zq : -1 ≤ zq.toInt ∧ zq.toInt ≤ 2000000) (g_zn : 0 ≤ zn.toInt ∧ zn.toInt ≤ 2600) (g_zm : 0 ≤ zm.toInt ∧ zm.toInt ≤ 2600) (g_zk : 0 ≤ zk.toInt ∧ zk.toInt ≤ 300) (hzs : zs.toInt ≤ 1000000) : kMi l yX12_unlist wsX12_unlist ({ frames := 0, cells := 0, slots := 0, locals := 0 } : Room) [.ref oM] sz (dC, dI) vwCl [(cI, .int), (cS, .short)] [(oM, .inr (12, [.ref mT, .int zt, .ref mS, .ref mX, .int zp, .int zf, .ref mL, .ref mB, .ref mD, .ref m1, .ref m2, .int zh, .ref mR, .int zr, .ref x1, .ref x2, .ref x3, .int zc, .ref mH, .int zy, .int za, .int zb, .int zs, .int zq, .int zw, .int ze, .ref mY, .int zn, .ref mE, .int zm, .int zl, .ref mW, .int zk, .ref mO, .int zd, .ref y1, .ref y2, .ref y3, .ref y4, .ref mZ]))] (fun _ => True) 0 0 (fun (A : Nat → Prop) (r : Int32) (hh9 : Heap) => ∃ (ze' : Int32) (zh' : Int32) (zs' : Int32), kPD (dC, dI) vwCl A [(oM, .inr (12, [.ref mT, .int zt, .ref mS, .ref mX, .int zp, .int zf, .ref mL, .ref mB, .ref mD, .ref m1, .ref m2, .int zh', .ref mR, .int zr, .ref x1, .ref x2, .ref x3, .int zc, .ref mH, .int zy, .int za, .int zb, .int zs', .int zq, .int zw, .int ze', .ref mY, .int zn, .ref mE, .int zm, .int zl, .ref mW, .int zk, .ref mO, .int zd, .ref y1, .ref y2, .ref y3, .ref y4, .ref mZ]))] hh9 ∧ (0 ≤ zh'.toInt ∧ zh'.toInt ≤ 6) ∧ (0 ≤ zs'.toInt ∧ zs'.toInt ≤ 2000000) ∧ (r = zh) ∧ (zh'.toInt = 0) ∧ (zs'.toInt = zs.toInt + 1) ∧ (zs'.toInt ≤ zs.toInt + 1 ∧ zs.toInt ≤ zs'.toInt)) := by
  refine kMi_of (cc := cX12_unlist) (maxL := 2) (ret := (some .int)) (lv := [(0, .ref oM)]) (by decide +kernel) rfl rfl (Nat.le_of_ble_eq_true rfl) ?_
  intro p e s m below meth c A QQ ls hx hb hr hts hml hown hlocks hA hQQ hK hX hP hD hS hl
  have hown : s.vm.findClass RX12 = some m.cls := hown
  have hcf := k_cf hx hb hml hown hts
  have in_X12 : ∀ w ∈ wsX120, w ∈ wsX12_unlist := fun _ h => List.mem_cons_of_mem _ (List.mem_append_right _ (h))
  replace g_zt := hid g_zt
  replace g_zp := hid g_zp
  replace g_zf := hid g_zf
  replace g_zh := hid g_zh
  replace g_zr := hid g_zr
  replace g_zc := hid g_zc
  replace g_zy := hid g_zy
  replace g_za := hid g_za
  replace g_zb := hid g_zb
  replace g_zq := hid g_zq
  replace g_zn := hid g_zn
  replace g_zm := hid g_zm
  replace g_zk := hid g_zk
  refine lv_aload_n hx hb dX12_unlist_0 rfl (lv_at hl 0 rfl) ?_
  refine lv_iconst (v := 0) hx hb dX12_unlist_1 (by decide) ?_
  refine va_put (D := (dC, dI)) (ci := 12) (v := .int 0) (ty := .int) (C := RX12) (T := TX12) (N := 40) hx hb hts in_X12 tyX12 tyX12_ok nmX12 hown hK hP hD hS 0 rfl rfl 25 (by decide) (hts (.fieldLink RX12 85 "TextMenderModel" "thrown" "I") (List.mem_of_getElem? (i := 1) rfl)) (fun _ h9 => h9) rfl (by decide +kernel) rfl rfl (Nat.le_of_ble_eq_true rfl) dX12_unlist_2 (kW (wn := [(oM, .inr (12, [.ref mT, .int zt, .ref mS, .ref mX, .int zp, .int zf, .ref mL, .ref mB, .ref mD, .ref m1, .ref m2, .int zh, .ref mR, .int zr, .ref x1, .ref x2, .ref x3, .int zc, .ref mH, .int zy, .int za, .int zb, .int zs, .int zq, .int zw, .int 0, .ref mY, .int zn, .ref mE, .int zm, .int zl, .ref mW, .int zk, .ref mO, .int zd, .ref y1, .ref y2, .ref y3, .ref y4, .ref mZ]))]) rfl (fun H locs hPn hDn hSn => ?_))
  clear hP hD hS
  have hP := hPn
  have hD := hDn
  have hS := hSn
  clear hPn hDn hSn
  refine lv_aload_n hx hb dX12_unlist_5 rfl (lv_at hl 0 rfl) ?_
  refine va_get (D := (dC, dI)) (ci := 12) (v := .int zh) (C := RX12) (T := TX12) (N := 40) hx hb hts in_X12 hown hK hP 0 rfl rfl 11 (by decide) (hts (.fieldLink RX12 161 "TextMenderModel" "harms" "I") (List.mem_of_getElem? (i := 2) rfl)) (fun _ h9 => h9) rfl dX12_unlist_6 ?_
  refine lv_istore_n (lv' := [(1, .int zh), (0, .ref oM)]) hx hb dX12_unlist_9 rfl hl (by decide) rfl (fun ls hl => ?_)
  refine lv_aload_n hx hb dX12_unlist_10 rfl (lv_at hl 1 rfl) ?_
  refine lv_iconst (v := 0) hx hb dX12_unlist_11 (by decide) ?_
  refine va_put (D := (dC, dI)) (ci := 12) (v := .int 0) (ty := .int) (C := RX12) (T := TX12) (N := 40) hx hb hts in_X12 tyX12 tyX12_ok nmX12 hown hK hP hD hS 0 rfl rfl 11 (by decide) (hts (.fieldLink RX12 161 "TextMenderModel" "harms" "I") (List.mem_of_getElem? (i := 2) rfl)) (fun _ h9 => h9) rfl (by decide +kernel) rfl rfl (Nat.le_of_ble_eq_true rfl) dX12_unlist_12 (kW (wn := [(oM, .inr (12, [.ref mT, .int zt, .ref mS, .ref mX, .int zp, .int zf, .ref mL, .ref mB, .ref mD, .ref m1, .ref m2, .int 0, .ref mR, .int zr, .ref x1, .ref x2, .ref x3, .int zc, .ref mH, .int zy, .int za, .int zb, .int zs, .int zq, .int zw, .int 0, .ref mY, .int zn, .ref mE, .int zm, .int zl, .ref mW, .int zk, .ref mO, .int zd, .ref y1, .ref y2, .ref y3, .ref y4, .ref mZ]))]) rfl (fun H locs hPn hDn hSn => ?_))
  clear hP hD hS
  have hP := hPn
  have hD := hDn
  have hS := hSn
  clear hPn hDn hSn
  refine lv_aload_n hx hb dX12_unlist_15 rfl (lv_at hl 1 rfl) ?_
  refine lv_dup hx hb dX12_unlist_16 rfl ?_
  refine va_get (D := (dC, dI)) (ci := 12) (v := .int zs) (C := RX12) (T := TX12) (N := 40) hx hb hts in_X12 hown hK hP 0 rfl rfl 22 (by decide) (hts (.fieldLink RX12 148 "TextMenderModel" "state" "I") (List.mem_of_getElem? (i := 3) rfl)) (fun _ h9 => h9) rfl dX12_unlist_17 ?_
  refine lv_iconst (v := 1) hx hb dX12_unlist_20 (by decide) ?_
  refine lv_iadd hx hb dX12_unlist_21 ?_
  refine lv_topi (fun x_1 ex_1 => ?_)
  have tx_1 : x_1.toInt = zs.toInt + 1 := v_addR (l2 := 1) (h2 := 1) ex_1 g_zs (by decide) (by decide) (by decide)
  refine va_put (D := (dC, dI)) (ci := 12) (v := .int x_1) (ty := .int) (C := RX12) (T := TX12) (N := 40) hx hb hts in_X12 tyX12 tyX12_ok nmX12 hown hK hP hD hS 0 rfl rfl 22 (by decide) (hts (.fieldLink RX12 148 "TextMenderModel" "state" "I") (List.mem_of_getElem? (i := 3) rfl)) (fun _ h9 => h9) rfl (by decide +kernel) rfl rfl (Nat.le_of_ble_eq_true rfl) dX12_unlist_22 (kW (wn := [(oM, .inr (12, [.ref mT, .int zt, .ref mS, .ref mX, .int zp, .int zf, .ref mL, .ref mB, .ref mD, .ref m1, .ref m2, .int 0, .ref mR, .int zr, .ref x1, .ref x2, .ref x3, .int zc, .ref mH, .int zy, .int za, .int zb, .int x_1, .int zq, .int zw, .int 0, .ref mY, .int zn, .ref mE, .int zm, .int zl, .ref mW, .int zk, .ref mO, .int zd, .ref y1, .ref y2, .ref y3, .ref y4, .ref mZ]))]) rfl (fun H locs hPn hDn hSn => ?_))
  clear hP hD hS
  have hP := hPn
  have hD := hDn
  have hS := hSn
  clear hPn hDn hSn
  refine lv_iload_n hx hb dX12_unlist_25 rfl (lv_at hl 0 rfl) ?_
  exact kl_i (v := zh) hQQ hx hb hr hlocks hS dX12_unlist_26 ⟨0, 0, x_1, ⟨hP, hD⟩, by decide, by omega, rfl, by show 0 = 0; omega, by show x_1.toInt = zs.toInt + 1; omega, by show x_1.toInt ≤ zs.toInt + 1 ∧ zs.toInt ≤ x_1.toInt; omega⟩

end

/-! 58.told -/
section
abbrev nTd (K V : Nat → Int32) : Int32 → Prop := nT K V

set_option maxHeartbeats 40000000 in
set_option maxRecDepth 100000 in
theorem f_X10_placeFor (l : Launch) (dC : Nat → ClassId) (dI : Nat → Nat → Nat) (cI cS : ClassId) (sz : Nat) (ot : Nat) (at1 : Nat) (at2 : Nat) (at3 : Nat) (lt : Int32) (ft2 : Nat → Int32) (ft3 : Nat → Int32) (le : Int32)  : kMi l yX10_placeFor wsX10_placeFor ({ frames := 0, cells := 0, slots := 0, locals := 0 } : Room) [.ref ot, .int le] sz (dC, dI) vwCl [(cI, .int), (cS, .short)] [(ot, .inr (10, [.ref at1, .ref at2, .ref at3, .int lt])), (at2, .inl (cI, 512, .inl ft2)), (at3, .inl (cI, 512, .inl ft3))] (fun _ => True) 0 0 (fun (A : Nat → Prop) (r : Int32) (hh9 : Heap) => kPD (dC, dI) vwCl A [(ot, .inr (10, [.ref at1, .ref at2, .ref at3, .int lt])), (at2, .inl (cI, 512, .inl ft2)), (at3, .inl (cI, 512, .inl ft3))] hh9 ∧ (-1 ≤ r.toInt ∧ r.toInt ≤ 511) ∧ (F_pf 512 511 (hsT le) le r ft2 ft3)) := by
  refine kMi_of (cc := cX10_placeFor) (maxL := 5) (ret := (some .int)) (lv := [(0, .ref ot), (1, .int le)]) (by decide +kernel) rfl rfl (Nat.le_of_ble_eq_true rfl) ?_
  intro p e s m below meth c A QQ ls hx hb hr hts hml hown hlocks hA hQQ hK hX hP hD hS hl
  have hown : s.vm.findClass RX10 = some m.cls := hown
  have hcf := k_cf hx hb hml hown hts
  have in_X10 : ∀ w ∈ wsX100, w ∈ wsX10_placeFor := fun _ h => List.mem_cons_of_mem _ (List.mem_append_right _ (h))
  refine lv_iload_n hx hb dX10_placeFor_0 rfl (lv_at hl 1 rfl) ?_
  refine lv_ldc hx hb hown (hts (.constant RX10 45 (-1640531535)) (List.mem_of_getElem? (i := 1) rfl)) dX10_placeFor_1 ?_
  refine lv_imul hx hb dX10_placeFor_3 ?_
  refine lv_topi (fun x_1 ex_1 => ?_)
  have rv1_0 := v_rng le
  refine lv_bipush (v := 23) hx hb dX10_placeFor_4 (by decide) ?_
  obtain ⟨x_2, ex_2⟩ : ∃ v : Int32, v = ((x_1 : Int32).toUInt32 >>> ((23 : Int32).toUInt32 &&& Int32.toUInt32 31)).toInt32 := ⟨_, rfl⟩
  refine lv_iushr (v := x_2) hx hb dX10_placeFor_6 ex_2.symm ?_
  have tx_2 : 0 ≤ x_2.toInt ∧ x_2.toInt < 512 := v_ushr 23 ex_2 (by decide) (by decide) (by decide)
  refine lv_istore_n (lv' := [(2, .int x_2), (0, .ref ot), (1, .int le)]) hx hb dX10_placeFor_7 rfl hl (by decide) rfl (fun ls hl => ?_)
  refine lv_iconst (v := 0) hx hb dX10_placeFor_8 (by decide) ?_
  refine lv_istore_n (lv' := [(3, .int 0), (2, .int x_2), (0, .ref ot), (1, .int le)]) hx hb dX10_placeFor_9 rfl hl (by decide) rfl (fun ls hl => ?_)
  have LOOP_10 : ∀ (k_10 : Nat) (k : Int32) (H : Heap) (locs : List Loc) (ls : Array Slot), MSd (512 - k.toInt : Int) k_10 → (0 ≤ k.toInt ∧ k.toInt ≤ 512) → (∀ q : Int32, 0 ≤ q.toInt → q.toInt < k.toInt → ¬ ft3 (slI 511 x_2 q) = -1 ∧ ¬ ft2 (slI 511 x_2 q) = le) → va_P (dC, dI) vwCl [(ot, .inr (10, [.ref at1, .ref at2, .ref at3, .int lt])), (at2, .inl (cI, 512, .inl ft2)), (at3, .inl (cI, 512, .inl ft3))] H → va_D A [(ot, .inr (10, [.ref at1, .ref at2, .ref at3, .int lt])), (at2, .inl (cI, 512, .inl ft2)), (at3, .inl (cI, 512, .inl ft3))] → va_S A s.heap H locs → lv_has ls 5 [(3, .int k), (2, .int x_2), (0, .ref ot), (1, .int le)] → W p l e (headSpec wsX10_placeFor ({ frames := 0, cells := 0, slots := 0, locals := 0 } : Room)).room s m ([.ref ot, .int le] : List Value).toArray below meth c H locs 0 0 (MQ below QQ ([.ref ot, .int le] : List Value).toArray s 0 0 A) (F0 m 10 ls []) := by
    clear hP hD hS hl
    intro k_10
    induction k_10 with
    | zero =>
      intro k H locs ls hm_10 g_k hq hP hD hS hl
      exact ms_0 hm_10
    | succ k_10 ih_10 =>
      intro k H locs ls hm_10 g_k hq hP hD hS hl
      refine lv_iload_n hx hb dX10_placeFor_10 rfl (lv_at hl 0 rfl) ?_
      refine lv_sipush (v := 512) hx hb dX10_placeFor_11 (by decide) ?_
      refine lv_icmp_ge (tgt := 57) hx hb dX10_placeFor_14 (by decide) (fun c_3 => ?_) (fun c_3 => ?_)
      · have tc_3 : 512 ≤ k.toInt := v_le c_3
        refine lv_iconst (v := (-1)) hx hb dX10_placeFor_57 (by decide) ?_
        exact kl_i (v := (-1)) hQQ hx hb hr hlocks hS dX10_placeFor_58 ⟨⟨hP, hD⟩, by decide, F_pf_eq (Or.inl ⟨rfl, fun q h1 h2 => hq q h1 (by omega)⟩) (by rw [ex_2, ex_1]; rfl)⟩
      · have tc_3 : k.toInt < 512 := v_nle c_3
        refine lv_iload_n hx hb dX10_placeFor_17 rfl (lv_at hl 1 rfl) ?_
        refine lv_iload_n hx hb dX10_placeFor_18 rfl (lv_at hl 0 rfl) ?_
        refine lv_iadd hx hb dX10_placeFor_19 ?_
        refine lv_topi (fun x_4 ex_4 => ?_)
        have tx_4 : x_4.toInt = x_2.toInt + k.toInt := v_add ex_4 (by show -2147483648 ≤ x_2.toInt + k.toInt; omega) (by show x_2.toInt + k.toInt < 2147483648; omega)
        refine lv_sipush (v := 511) hx hb dX10_placeFor_20 (by decide) ?_
        refine lv_iand hx hb dX10_placeFor_23 ?_
        refine lv_topi (fun x_5 ex_5 => ?_)
        have tx_5 : 0 ≤ x_5.toInt ∧ x_5.toInt < 512 := v_and 9 ex_5 (by decide) (by decide)
        refine lv_istore (lv' := [(4, .int x_5), (3, .int k), (2, .int x_2), (0, .ref ot), (1, .int le)]) hx hb dX10_placeFor_24 hl (by decide) rfl (fun ls hl => ?_)
        refine lv_aload_n hx hb dX10_placeFor_26 rfl (lv_at hl 3 rfl) ?_
        refine va_get (D := (dC, dI)) (ci := 10) (v := .ref at3) (C := RX10) (T := TX10) (N := 4) hx hb hts in_X10 hown hK hP 0 rfl rfl 2 (by decide) (hts (.fieldLink RX10 18 "TextMender$ToldCode" "placeByte" "[I") (List.mem_of_getElem? (i := 2) rfl)) (fun _ h9 => h9) rfl dX10_placeFor_27 ?_
        refine lv_iload hx hb dX10_placeFor_30 (lv_at hl 0 rfl) ?_
        refine va_iald hx hb hK hP 2 0 rfl rfl (v_in (by omega)) dX10_placeFor_32 ?_
        refine lv_topi (fun x_6 ex_6 => ?_)
        refine lv_iconst (v := (-1)) hx hb dX10_placeFor_33 (by decide) ?_
        refine lv_icmp_eq (tgt := 48) hx hb dX10_placeFor_34 (by decide) (fun c_7 => ?_) (fun c_7 => ?_)
        · have tc_7 : x_6.toInt = (-1) := v_eq c_7
          refine lv_iload hx hb dX10_placeFor_48 (lv_at hl 0 rfl) ?_
          exact kl_i (v := x_5) hQQ hx hb hr hlocks hS dX10_placeFor_50 ⟨⟨hP, hD⟩, by omega, F_pf_eq (Or.inr ⟨by omega, way_here hq ex_4 ex_5 (Or.inl (by rw [← ex_6]; exact c_7)) (by omega) (by omega)⟩) (by rw [ex_2, ex_1]; rfl)⟩
        · have tc_7 : ¬ x_6.toInt = (-1) := v_ne c_7
          refine lv_aload_n hx hb dX10_placeFor_37 rfl (lv_at hl 3 rfl) ?_
          refine va_get (D := (dC, dI)) (ci := 10) (v := .ref at2) (C := RX10) (T := TX10) (N := 4) hx hb hts in_X10 hown hK hP 0 rfl rfl 1 (by decide) (hts (.fieldLink RX10 15 "TextMender$ToldCode" "placeLetter" "[I") (List.mem_of_getElem? (i := 3) rfl)) (fun _ h9 => h9) rfl dX10_placeFor_38 ?_
          refine lv_iload hx hb dX10_placeFor_41 (lv_at hl 0 rfl) ?_
          refine va_iald hx hb hK hP 1 0 rfl rfl (v_in (by omega)) dX10_placeFor_43 ?_
          refine lv_topi (fun x_8 ex_8 => ?_)
          refine lv_iload_n hx hb dX10_placeFor_44 rfl (lv_at hl 4 rfl) ?_
          refine lv_icmp_ne (tgt := 51) hx hb dX10_placeFor_45 (by decide) (fun c_9 => ?_) (fun c_9 => ?_)
          · have tc_9 : ¬ x_8.toInt = le.toInt := v_ne c_9
            have rw9_0 := v_rng x_8
            obtain ⟨x_10, ex_10⟩ : ∃ y : Int32, y = k + 1 := ⟨_, rfl⟩
            have tx_10 : x_10.toInt = k.toInt + 1 := v_addR (l2 := 1) (h2 := 1) ex_10 g_k (by decide) (by decide) (by decide)
            refine lv_iinc (v := x_10) (lv' := [(3, .int x_10), (4, .int x_5), (2, .int x_2), (0, .ref ot), (1, .int le)]) hx hb dX10_placeFor_51 hl (k := 1) rfl (by rw [ex_10]; rfl) (by decide) rfl (fun ls hl => ?_)
            refine lv_goto (tgt := 10) hx hb dX10_placeFor_54 (by decide) ?_
            exact ih_10 x_10 _ _ _ (ms_lt hm_10 (by show ((512 - x_10.toInt : Int)) < 512 - k.toInt; omega) (by show (0 : Int) < 512 - k.toInt; omega)) (by show 0 ≤ x_10.toInt ∧ x_10.toInt ≤ 512; omega) (way_step hq ex_4 ex_5 ex_6 ex_8 c_7 c_9 (by omega)) hP hD hS (lv_sub hl [0, 2, 3, 4] rfl)
          · have tc_9 : x_8.toInt = le.toInt := v_eq c_9
            have rw9_0 := v_rng x_8
            refine lv_iload hx hb dX10_placeFor_48 (lv_at hl 0 rfl) ?_
            exact kl_i (v := x_5) hQQ hx hb hr hlocks hS dX10_placeFor_50 ⟨⟨hP, hD⟩, by omega, F_pf_eq (Or.inr ⟨by omega, way_here hq ex_4 ex_5 (Or.inr (by rw [← ex_8]; exact c_9)) (by omega) (by omega)⟩) (by rw [ex_2, ex_1]; rfl)⟩
  exact LOOP_10 _ 0 _ _ _ (ms_s _) (by decide) (fun q h1 h2 => absurd h2 (by show ¬ q.toInt < 0; omega)) hP hD hS (lv_sub hl [0, 1, 2, 3] rfl)

set_option maxHeartbeats 40000000 in
set_option maxRecDepth 100000 in
theorem f_X10_byteFor (l : Launch) (dC : Nat → ClassId) (dI : Nat → Nat → Nat) (cI cS : ClassId) (sz : Nat) (ot : Nat) (at1 : Nat) (at2 : Nat) (at3 : Nat) (lt : Int32) (ft2 : Nat → Int32) (ft3 : Nat → Int32) (le : Int32) (hT : HT 512 511 hsT ft2 ft3) (ho : (occ ft3 512 : Int) ≤ 511) : kMi l yX10_byteFor wsX10_byteFor ({ frames := 1, cells := 0, slots := 0, locals := 24 } : Room) [.ref ot, .int le] sz (dC, dI) vwCl [(cI, .int), (cS, .short)] [(ot, .inr (10, [.ref at1, .ref at2, .ref at3, .int lt])), (at2, .inl (cI, 512, .inl ft2)), (at3, .inl (cI, 512, .inl ft3))] (fun _ => True) 0 0 (fun (A : Nat → Prop) (r : Int32) (hh9 : Heap) => kPD (dC, dI) vwCl A [(ot, .inr (10, [.ref at1, .ref at2, .ref at3, .int lt])), (at2, .inl (cI, 512, .inl ft2)), (at3, .inl (cI, 512, .inl ft3))] hh9 ∧ (F_bf r le ft2 ft3)) := by
  refine kMi_of (cc := cX10_byteFor) (maxL := 3) (ret := (some .int)) (lv := [(0, .ref ot), (1, .int le)]) (by decide +kernel) rfl rfl (Nat.le_of_ble_eq_true rfl) ?_
  intro p e s m below meth c A QQ ls hx hb hr hts hml hown hlocks hA hQQ hK hX hP hD hS hl
  have hown : s.vm.findClass RX10 = some m.cls := hown
  have hcf := k_cf hx hb hml hown hts
  have in_X10 : ∀ w ∈ wsX100, w ∈ wsX10_byteFor := fun _ h => List.mem_cons_of_mem _ (List.mem_append_right _ (h))
  refine lv_aload_n hx hb dX10_byteFor_0 rfl (lv_at hl 0 rfl) ?_
  refine lv_iload_n hx hb dX10_byteFor_1 rfl (lv_at hl 1 rfl) ?_
  refine kV_i (rest := []) (q0 := 0) (ci := 10) hcf (f_X10_placeFor l dC dI cI cS s.heap.size ot at1 at2 at3 lt ft2 ft3 le ) kc_X10_placeFor gX10_byteFor_X10_placeFor rfl rfl rfl ⟨Nat.le_of_ble_eq_true rfl, Nat.le_of_ble_eq_true rfl⟩ kX_t hK hP hD hS hA [0, 1, 2] [] rfl (by decide +kernel) rfl rfl rfl hl rfl (Nat.le_of_ble_eq_true rfl) dX10_byteFor_2 ⟨Nat.le_of_ble_eq_true rfl, Nat.le_of_ble_eq_true rfl⟩ (fun r_1 H locs hB hJ hSn => ?_)
  obtain ⟨⟨hP1, hD1⟩, hf1_0, hf1_1⟩ := hB
  obtain ⟨hPn, hDn⟩ := hJ _ hP1 hD1 [(ot, .inr (10, [.ref at1, .ref at2, .ref at3, .int lt])), (at2, .inl (cI, 512, .inl ft2)), (at3, .inl (cI, 512, .inl ft3))] rfl
  clear hP hD hS hJ hP1 hD1
  have hP := hPn
  have hD := hDn
  have hS := hSn
  clear hPn hDn hSn
  obtain ⟨hpz1, hpf1⟩ := pfT_found hf1_1 ho
  refine lv_istore_n (lv' := [(2, .int r_1), (0, .ref ot), (1, .int le)]) hx hb dX10_byteFor_5 rfl hl (by decide) rfl (fun ls hl => ?_)
  refine lv_iload_n hx hb dX10_byteFor_6 rfl (lv_at hl 0 rfl) ?_
  refine lv_iconst (v := (-1)) hx hb dX10_byteFor_7 (by decide) ?_
  refine lv_icmp_ne (tgt := 15) hx hb dX10_byteFor_8 (by decide) (fun c_2 => ?_) (fun c_2 => by exfalso; have tc_2 : r_1.toInt = (-1) := v_eq c_2; omega)
  have tc_2 : ¬ r_1.toInt = (-1) := v_ne c_2
  refine lv_aload_n hx hb dX10_byteFor_15 rfl (lv_at hl 1 rfl) ?_
  refine va_get (D := (dC, dI)) (ci := 10) (v := .ref at3) (C := RX10) (T := TX10) (N := 4) hx hb hts in_X10 hown hK hP 0 rfl rfl 2 (by decide) (hts (.fieldLink RX10 18 "TextMender$ToldCode" "placeByte" "[I") (List.mem_of_getElem? (i := 1) rfl)) (fun _ h9 => h9) rfl dX10_byteFor_16 ?_
  refine lv_iload_n hx hb dX10_byteFor_19 rfl (lv_at hl 0 rfl) ?_
  refine va_iald hx hb hK hP 2 0 rfl rfl (v_in (by omega)) dX10_byteFor_20 ?_
  refine lv_topi (fun x_3 ex_3 => ?_)
  exact kl_i (v := x_3) hQQ hx hb hr hlocks hS dX10_byteFor_21 ⟨⟨hP, hD⟩, bf_of hT hpf1 (by omega) (by omega) ex_3⟩

set_option maxHeartbeats 40000000 in
set_option maxRecDepth 100000 in
theorem f_X10_canTake (l : Launch) (dC : Nat → ClassId) (dI : Nat → Nat → Nat) (cI cS : ClassId) (sz : Nat) (ot : Nat) (at1 : Nat) (at2 : Nat) (at3 : Nat) (lt : Int32) (ft1 : Nat → Int32) (ft2 : Nat → Int32) (ft3 : Nat → Int32) (fr : Int32) (n : Int32) (le : Int32) (sp : Int32) (hT : HT 512 511 hsT ft2 ft3) (ho : (occ ft3 512 : Int) ≤ 511) : kMi l yX10_canTake wsX10_canTake ({ frames := 2, cells := 0, slots := 0, locals := 46 } : Room) [.ref ot, .int fr, .int n, .int le, .int sp] sz (dC, dI) vwCl [(cI, .int), (cS, .short)] [(ot, .inr (10, [.ref at1, .ref at2, .ref at3, .int lt])), (at1, .inl (cI, 256, .inl ft1)), (at2, .inl (cI, 512, .inl ft2)), (at3, .inl (cI, 512, .inl ft3))] (va_Nw (.methodLinkNest RX10 35 yX11_isLetter "TextMender")) 0 0 (fun (A : Nat → Prop) (r : Int32) (hh9 : Heap) => kPD (dC, dI) vwCl A [(ot, .inr (10, [.ref at1, .ref at2, .ref at3, .int lt])), (at1, .inl (cI, 256, .inl ft1)), (at2, .inl (cI, 512, .inl ft2)), (at3, .inl (cI, 512, .inl ft3))] hh9 ∧ (0 ≤ r.toInt ∧ r.toInt ≤ 1) ∧ (F_ct r fr n le sp (fun k => ft1 k = -1) (nT ft2 ft3))) := by
  refine kMi_of (cc := cX10_canTake) (maxL := 8) (ret := (some .boolean)) (lv := [(0, .ref ot), (1, .int fr), (2, .int n), (3, .int le), (4, .int sp)]) (by decide +kernel) rfl rfl (Nat.le_of_ble_eq_true rfl) ?_
  intro p e s m below meth c A QQ ls hx hb hr hts hml hown hlocks hA hQQ hK hX hP hD hS hl
  have hown : s.vm.findClass RX10 = some m.cls := hown
  have hcf := k_cf hx hb hml hown hts
  have hN35 := hX
  refine lv_iload_n hx hb dX10_canTake_0 rfl (lv_at hl 1 rfl) ?_
  refine lv_if_lt (tgt := 29) hx hb dX10_canTake_1 (by decide) (fun c_1 => ?_) (fun c_1 => ?_)
  · have tc_1 : fr.toInt < 0 := v_lt c_1
    refine lv_iconst (v := 0) hx hb dX10_canTake_29 (by decide) ?_
    refine lv_istore (lv' := [(5, .int 0), (0, .ref ot), (1, .int fr), (2, .int n), (3, .int le), (4, .int sp)]) hx hb dX10_canTake_30 hl (by decide) rfl (fun ls hl => ?_)
    refine lv_iload hx hb dX10_canTake_32 (lv_at hl 0 rfl) ?_
    refine lv_if_eq (tgt := 60) hx hb dX10_canTake_34 (by decide) (fun c_2 => ?_) (fun c_2 => absurd c_2 (by decide))
    refine lv_iconst (v := 0) hx hb dX10_canTake_60 (by decide) ?_
    exact kl_z (v := 0) hQQ hx hb hr hlocks hS dX10_canTake_61 (rfl) ⟨⟨hP, hD⟩, by decide, Or.inr ⟨rfl, fun h => by have h1 := h.1; unfold isLz at h1; omega⟩⟩
  · have tc_1 : 0 ≤ fr.toInt := v_nlt c_1
    refine lv_iload_n hx hb dX10_canTake_4 rfl (lv_at hl 1 rfl) ?_
    refine lv_sipush (v := 256) hx hb dX10_canTake_5 (by decide) ?_
    refine lv_icmp_ge (tgt := 29) hx hb dX10_canTake_8 (by decide) (fun c_3 => ?_) (fun c_3 => ?_)
    · have tc_3 : 256 ≤ fr.toInt := v_le c_3
      refine lv_iconst (v := 0) hx hb dX10_canTake_29 (by decide) ?_
      refine lv_istore (lv' := [(5, .int 0), (0, .ref ot), (1, .int fr), (2, .int n), (3, .int le), (4, .int sp)]) hx hb dX10_canTake_30 hl (by decide) rfl (fun ls hl => ?_)
      refine lv_iload hx hb dX10_canTake_32 (lv_at hl 0 rfl) ?_
      refine lv_if_eq (tgt := 60) hx hb dX10_canTake_34 (by decide) (fun c_4 => ?_) (fun c_4 => absurd c_4 (by decide))
      refine lv_iconst (v := 0) hx hb dX10_canTake_60 (by decide) ?_
      exact kl_z (v := 0) hQQ hx hb hr hlocks hS dX10_canTake_61 (rfl) ⟨⟨hP, hD⟩, by decide, Or.inr ⟨rfl, fun h => by have h1 := h.1; unfold isLz at h1; omega⟩⟩
    · have tc_3 : fr.toInt < 256 := v_nle c_3
      refine lv_iload_n hx hb dX10_canTake_11 rfl (lv_at hl 2 rfl) ?_
      refine lv_iconst (v := 1) hx hb dX10_canTake_12 (by decide) ?_
      refine lv_icmp_lt (tgt := 29) hx hb dX10_canTake_13 (by decide) (fun c_5 => ?_) (fun c_5 => ?_)
      · have tc_5 : n.toInt < 1 := v_lt c_5
        refine lv_iconst (v := 0) hx hb dX10_canTake_29 (by decide) ?_
        refine lv_istore (lv' := [(5, .int 0), (0, .ref ot), (1, .int fr), (2, .int n), (3, .int le), (4, .int sp)]) hx hb dX10_canTake_30 hl (by decide) rfl (fun ls hl => ?_)
        refine lv_iload hx hb dX10_canTake_32 (lv_at hl 0 rfl) ?_
        refine lv_if_eq (tgt := 60) hx hb dX10_canTake_34 (by decide) (fun c_6 => ?_) (fun c_6 => absurd c_6 (by decide))
        refine lv_iconst (v := 0) hx hb dX10_canTake_60 (by decide) ?_
        exact kl_z (v := 0) hQQ hx hb hr hlocks hS dX10_canTake_61 (rfl) ⟨⟨hP, hD⟩, by decide, Or.inr ⟨rfl, fun h => by have h1 := h.1; unfold isLz at h1; omega⟩⟩
      · have tc_5 : 1 ≤ n.toInt := v_nlt c_5
        refine lv_iload_n hx hb dX10_canTake_16 rfl (lv_at hl 2 rfl) ?_
        refine lv_sipush (v := 256) hx hb dX10_canTake_17 (by decide) ?_
        refine lv_iload_n hx hb dX10_canTake_20 rfl (lv_at hl 1 rfl) ?_
        refine lv_isub hx hb dX10_canTake_21 ?_
        refine lv_topi (fun x_7 ex_7 => ?_)
        have tx_7 : x_7.toInt = 256 - fr.toInt := v_sub ex_7 (by show -2147483648 ≤ 256 - fr.toInt; omega) (by show 256 - fr.toInt < 2147483648; omega)
        refine lv_icmp_gt (tgt := 29) hx hb dX10_canTake_22 (by decide) (fun c_8 => ?_) (fun c_8 => ?_)
        · have tc_8 : x_7.toInt < n.toInt := v_lt c_8
          have rw8_0 := v_rng n
          refine lv_iconst (v := 0) hx hb dX10_canTake_29 (by decide) ?_
          refine lv_istore (lv' := [(5, .int 0), (0, .ref ot), (1, .int fr), (2, .int n), (3, .int le), (4, .int sp)]) hx hb dX10_canTake_30 hl (by decide) rfl (fun ls hl => ?_)
          refine lv_iload hx hb dX10_canTake_32 (lv_at hl 0 rfl) ?_
          refine lv_if_eq (tgt := 60) hx hb dX10_canTake_34 (by decide) (fun c_9 => ?_) (fun c_9 => absurd c_9 (by decide))
          refine lv_iconst (v := 0) hx hb dX10_canTake_60 (by decide) ?_
          exact kl_z (v := 0) hQQ hx hb hr hlocks hS dX10_canTake_61 (rfl) ⟨⟨hP, hD⟩, by decide, Or.inr ⟨rfl, fun h => by have h1 := h.1; unfold isLz at h1; omega⟩⟩
        · have tc_8 : n.toInt ≤ x_7.toInt := v_nlt c_8
          have rw8_0 := v_rng n
          refine lv_iconst (v := 1) hx hb dX10_canTake_25 (by decide) ?_
          refine lv_goto (tgt := 30) hx hb dX10_canTake_26 (by decide) ?_
          refine lv_istore (lv' := [(5, .int 1), (0, .ref ot), (1, .int fr), (2, .int n), (3, .int le), (4, .int sp)]) hx hb dX10_canTake_30 hl (by decide) rfl (fun ls hl => ?_)
          refine lv_iload hx hb dX10_canTake_32 (lv_at hl 0 rfl) ?_
          refine lv_if_eq (tgt := 60) hx hb dX10_canTake_34 (by decide) (fun c_10 => absurd c_10 (by decide)) (fun c_10 => ?_)
          refine lv_iload hx hb dX10_canTake_37 (lv_at hl 5 rfl) ?_
          refine lv_sipush (v := (-255)) hx hb dX10_canTake_39 (by decide) ?_
          refine lv_icmp_lt (tgt := 60) hx hb dX10_canTake_42 (by decide) (fun c_11 => ?_) (fun c_11 => ?_)
          · have tc_11 : sp.toInt < (-255) := v_lt c_11
            refine lv_iconst (v := 0) hx hb dX10_canTake_60 (by decide) ?_
            exact kl_z (v := 0) hQQ hx hb hr hlocks hS dX10_canTake_61 (rfl) ⟨⟨hP, hD⟩, by decide, Or.inr ⟨rfl, fun h => by have h1 := h.1; unfold isLz at h1; omega⟩⟩
          · have tc_11 : (-255) ≤ sp.toInt := v_nlt c_11
            refine lv_iload hx hb dX10_canTake_45 (lv_at hl 5 rfl) ?_
            refine lv_sipush (v := 255) hx hb dX10_canTake_47 (by decide) ?_
            refine lv_icmp_gt (tgt := 60) hx hb dX10_canTake_50 (by decide) (fun c_12 => ?_) (fun c_12 => ?_)
            · have tc_12 : 255 < sp.toInt := v_lt c_12
              refine lv_iconst (v := 0) hx hb dX10_canTake_60 (by decide) ?_
              exact kl_z (v := 0) hQQ hx hb hr hlocks hS dX10_canTake_61 (rfl) ⟨⟨hP, hD⟩, by decide, Or.inr ⟨rfl, fun h => by have h1 := h.1; unfold isLz at h1; omega⟩⟩
            · have tc_12 : sp.toInt ≤ 255 := v_nlt c_12
              refine lv_iload_n hx hb dX10_canTake_53 rfl (lv_at hl 4 rfl) ?_
              refine kSN_i (rest := []) hcf (m_X11_isLetter l dC dI cI cS s.heap.size le ) ⟨va_cnB 1 hts gX10_canTake_X11_isLetter_n35 rfl rfl rfl hN35 (hts (.initialized RX11) (List.mem_of_getElem? (i := 2) rfl)) (by decide +kernel) ⟨Nat.le_of_ble_eq_true rfl, Nat.le_of_ble_eq_true rfl⟩, (hts (.static yX11_isLetter) (List.mem_of_getElem? (i := 1) rfl)), trivial⟩ kX_t hK hP hD hS hA [] [0, 1, 2, 3] rfl (by decide +kernel) rfl hl rfl (Nat.le_of_ble_eq_true rfl) dX10_canTake_54 ⟨Nat.le_of_ble_eq_true rfl, Nat.le_of_ble_eq_true rfl⟩ (fun r_13 H locs hB hJ hSn => ?_)
              obtain ⟨⟨hP1, hD1⟩, hf13_0, hf13_1⟩ := hB
              obtain ⟨hPn, hDn⟩ := hJ _ hP1 hD1 [(ot, .inr (10, [.ref at1, .ref at2, .ref at3, .int lt])), (at1, .inl (cI, 256, .inl ft1)), (at2, .inl (cI, 512, .inl ft2)), (at3, .inl (cI, 512, .inl ft3))] rfl
              clear hP hD hS hJ hP1 hD1
              have hP := hPn
              have hD := hDn
              have hS := hSn
              clear hPn hDn hSn
              refine lv_if_ne (tgt := 62) hx hb dX10_canTake_57 (by decide) (fun c_14 => ?_) (fun c_14 => ?_)
              · have tc_14 : ¬ r_13.toInt = 0 := v_ne c_14
                refine lv_iload hx hb dX10_canTake_62 (lv_at hl 5 rfl) ?_
                refine lv_if_ne (tgt := 74) hx hb dX10_canTake_64 (by decide) (fun c_15 => ?_) (fun c_15 => ?_)
                · have tc_15 : ¬ sp.toInt = 0 := v_ne c_15
                  refine lv_iconst (v := 0) hx hb dX10_canTake_74 (by decide) ?_
                  refine lv_istore (lv' := [(6, .int 0), (5, .int 1), (0, .ref ot), (1, .int fr), (2, .int n), (3, .int le), (4, .int sp)]) hx hb dX10_canTake_75 hl (by decide) rfl (fun ls hl => ?_)
                  have LOOP_77 : ∀ (k_77 : Nat) (i : Int32) (H : Heap) (locs : List Loc) (ls : Array Slot), MSd (n.toInt - i.toInt : Int) k_77 → (0 ≤ i.toInt ∧ i.toInt ≤ 256) → (CTk i.toInt fr le sp (fun k => ft1 k = -1) (nT ft2 ft3)) → va_P (dC, dI) vwCl [(ot, .inr (10, [.ref at1, .ref at2, .ref at3, .int lt])), (at1, .inl (cI, 256, .inl ft1)), (at2, .inl (cI, 512, .inl ft2)), (at3, .inl (cI, 512, .inl ft3))] H → va_D A [(ot, .inr (10, [.ref at1, .ref at2, .ref at3, .int lt])), (at1, .inl (cI, 256, .inl ft1)), (at2, .inl (cI, 512, .inl ft2)), (at3, .inl (cI, 512, .inl ft3))] → va_S A s.heap H locs → lv_has ls 8 [(6, .int i), (0, .ref ot), (1, .int fr), (2, .int n), (3, .int le), (4, .int sp)] → W p l e (headSpec wsX10_canTake ({ frames := 2, cells := 0, slots := 0, locals := 46 } : Room)).room s m ([.ref ot, .int fr, .int n, .int le, .int sp] : List Value).toArray below meth c H locs 0 0 (MQ below QQ ([.ref ot, .int fr, .int n, .int le, .int sp] : List Value).toArray s 0 0 A) (F0 m 77 ls []) := by
                    clear hP hD hS hl
                    intro k_77
                    induction k_77 with
                    | zero =>
                      intro i H locs ls hm_77 g_i hct hP hD hS hl
                      exact ms_0 hm_77
                    | succ k_77 ih_77 =>
                      intro i H locs ls hm_77 g_i hct hP hD hS hl
                      refine lv_iload hx hb dX10_canTake_77 (lv_at hl 0 rfl) ?_
                      refine lv_iload_n hx hb dX10_canTake_79 rfl (lv_at hl 3 rfl) ?_
                      refine lv_icmp_ge (tgt := 130) hx hb dX10_canTake_80 (by decide) (fun c_16 => ?_) (fun c_16 => ?_)
                      · have tc_16 : n.toInt ≤ i.toInt := v_le c_16
                        refine lv_iconst (v := 1) hx hb dX10_canTake_130 (by decide) ?_
                        exact kl_z (v := 1) hQQ hx hb hr hlocks hS dX10_canTake_131 (rfl) ⟨⟨hP, hD⟩, by decide, Or.inl ⟨rfl, by unfold isLz; omega, CTk_le hct (by omega)⟩⟩
                      · have tc_16 : i.toInt < n.toInt := v_nle c_16
                        refine lv_iload_n hx hb dX10_canTake_83 rfl (lv_at hl 4 rfl) ?_
                        refine lv_iload hx hb dX10_canTake_84 (lv_at hl 0 rfl) ?_
                        refine lv_iload hx hb dX10_canTake_86 (lv_at hl 5 rfl) ?_
                        refine lv_imul hx hb dX10_canTake_88 ?_
                        refine lv_topi (fun x_17 ex_17 => ?_)
                        refine lv_iadd hx hb dX10_canTake_89 ?_
                        refine lv_topi (fun x_18 ex_18 => ?_)
                        have rv18_0 := v_rng le
                        have rv18_1 := v_rng x_17
                        refine lv_istore (lv' := [(7, .int x_18), (6, .int i), (0, .ref ot), (1, .int fr), (2, .int n), (3, .int le), (4, .int sp)]) hx hb dX10_canTake_90 hl (by decide) rfl (fun ls hl => ?_)
                        refine lv_iload hx hb dX10_canTake_92 (lv_at hl 0 rfl) ?_
                        refine kSN_i (rest := []) hcf (m_X11_isLetter l dC dI cI cS H.size x_18 ) ⟨va_cnB 1 hts gX10_canTake_X11_isLetter_n35 rfl rfl rfl hN35 (hts (.initialized RX11) (List.mem_of_getElem? (i := 2) rfl)) (by decide +kernel) ⟨Nat.le_of_ble_eq_true rfl, Nat.le_of_ble_eq_true rfl⟩, (hts (.static yX11_isLetter) (List.mem_of_getElem? (i := 1) rfl)), trivial⟩ kX_t hK hP hD hS hA [] [0, 1, 2, 3] rfl (by decide +kernel) rfl hl rfl (Nat.le_of_ble_eq_true rfl) dX10_canTake_94 ⟨Nat.le_of_ble_eq_true rfl, Nat.le_of_ble_eq_true rfl⟩ (fun r_19 H locs hB hJ hSn => ?_)
                        obtain ⟨⟨hP1, hD1⟩, hf19_0, hf19_1⟩ := hB
                        obtain ⟨hPn, hDn⟩ := hJ _ hP1 hD1 [(ot, .inr (10, [.ref at1, .ref at2, .ref at3, .int lt])), (at1, .inl (cI, 256, .inl ft1)), (at2, .inl (cI, 512, .inl ft2)), (at3, .inl (cI, 512, .inl ft3))] rfl
                        clear hP hD hS hJ hP1 hD1
                        have hP := hPn
                        have hD := hDn
                        have hS := hSn
                        clear hPn hDn hSn
                        refine lv_if_eq (tgt := 122) hx hb dX10_canTake_97 (by decide) (fun c_20 => ?_) (fun c_20 => ?_)
                        · have tc_20 : r_19.toInt = 0 := v_eq c_20
                          refine lv_iconst (v := 0) hx hb dX10_canTake_122 (by decide) ?_
                          exact kl_z (v := 0) hQQ hx hb hr hlocks hS dX10_canTake_123 (rfl) ⟨⟨hP, hD⟩, by decide, Or.inr ⟨rfl, CT_no ex_17 ex_18 (by omega) (by omega) (fun z => by have z1 := z.1; unfold isLz at z1; omega)⟩⟩
                        · have tc_20 : ¬ r_19.toInt = 0 := v_ne c_20
                          refine lv_aload_n hx hb dX10_canTake_100 rfl (lv_at hl 2 rfl) ?_
                          refine lv_iload_n hx hb dX10_canTake_101 rfl (lv_at hl 3 rfl) ?_
                          refine lv_iload hx hb dX10_canTake_102 (lv_at hl 1 rfl) ?_
                          refine lv_iadd hx hb dX10_canTake_104 ?_
                          refine lv_topi (fun x_21 ex_21 => ?_)
                          have tx_21 : x_21.toInt = fr.toInt + i.toInt := v_add ex_21 (by show -2147483648 ≤ fr.toInt + i.toInt; omega) (by show fr.toInt + i.toInt < 2147483648; omega)
                          refine kV_i (rest := []) (q0 := 0) (ci := 10) hcf (m_X10_letterFor l dC dI cI cS H.size ot at1 at2 at3 lt ft1 x_21 ) kc_X10_letterFor gX10_canTake_X10_letterFor rfl rfl rfl ⟨Nat.le_of_ble_eq_true rfl, Nat.le_of_ble_eq_true rfl⟩ kX_t hK hP hD hS hA [0, 1] [2, 3] rfl (by decide +kernel) rfl rfl rfl hl rfl (Nat.le_of_ble_eq_true rfl) dX10_canTake_105 ⟨Nat.le_of_ble_eq_true rfl, Nat.le_of_ble_eq_true rfl⟩ (fun r_22 H locs hB hJ hSn => ?_)
                          obtain ⟨⟨hP1, hD1⟩, hf22_0⟩ := hB
                          obtain ⟨hPn, hDn⟩ := hJ _ hP1 hD1 [(at2, .inl (cI, 512, .inl ft2)), (at3, .inl (cI, 512, .inl ft3)), (ot, .inr (10, [.ref at1, .ref at2, .ref at3, .int lt])), (at1, .inl (cI, 256, .inl ft1))] rfl
                          clear hP hD hS hJ hP1 hD1
                          have hP := hPn
                          have hD := hDn
                          have hS := hSn
                          clear hPn hDn hSn
                          refine lv_iconst (v := (-1)) hx hb dX10_canTake_108 (by decide) ?_
                          refine lv_icmp_ne (tgt := 122) hx hb dX10_canTake_109 (by decide) (fun c_23 => ?_) (fun c_23 => ?_)
                          · have tc_23 : ¬ r_22.toInt = (-1) := v_ne c_23
                            refine lv_iconst (v := 0) hx hb dX10_canTake_122 (by decide) ?_
                            exact kl_z (v := 0) hQQ hx hb hr hlocks hS dX10_canTake_123 (rfl) ⟨kPD_sub hP hD [2, 3, 0, 1] (by decide +kernel) rfl, by decide, Or.inr ⟨rfl, CT_no ex_17 ex_18 (by omega) (by omega) (fun z => c_23 ((get_free (w := (fr.toInt + i.toInt).toNat) hf22_0 (by omega) (by omega) (by omega)).symm.trans z.2.1))⟩⟩
                          · have tc_23 : r_22.toInt = (-1) := v_eq c_23
                            refine lv_aload_n hx hb dX10_canTake_112 rfl (lv_at hl 2 rfl) ?_
                            refine lv_iload hx hb dX10_canTake_113 (lv_at hl 0 rfl) ?_
                            refine kV_i (rest := []) (q0 := 0) (ci := 10) hcf (f_X10_byteFor l dC dI cI cS H.size ot at1 at2 at3 lt ft2 ft3 x_18 (hT) (ho)) kc_X10_byteFor gX10_canTake_X10_byteFor rfl rfl rfl ⟨Nat.le_of_ble_eq_true rfl, Nat.le_of_ble_eq_true rfl⟩ kX_t hK hP hD hS hA [2, 0, 1] [3] rfl (by decide +kernel) rfl rfl rfl hl rfl (Nat.le_of_ble_eq_true rfl) dX10_canTake_115 ⟨Nat.le_of_ble_eq_true rfl, Nat.le_of_ble_eq_true rfl⟩ (fun r_24 H locs hB hJ hSn => ?_)
                            obtain ⟨⟨hP1, hD1⟩, hf24_0⟩ := hB
                            obtain ⟨hPn, hDn⟩ := hJ _ hP1 hD1 [(at1, .inl (cI, 256, .inl ft1)), (ot, .inr (10, [.ref at1, .ref at2, .ref at3, .int lt])), (at2, .inl (cI, 512, .inl ft2)), (at3, .inl (cI, 512, .inl ft3))] rfl
                            clear hP hD hS hJ hP1 hD1
                            have hP := hPn
                            have hD := hDn
                            have hS := hSn
                            clear hPn hDn hSn
                            refine lv_iconst (v := (-1)) hx hb dX10_canTake_118 (by decide) ?_
                            refine lv_icmp_eq (tgt := 124) hx hb dX10_canTake_119 (by decide) (fun c_25 => ?_) (fun c_25 => ?_)
                            · have tc_25 : r_24.toInt = (-1) := v_eq c_25
                              obtain ⟨x_26, ex_26⟩ : ∃ y : Int32, y = i + 1 := ⟨_, rfl⟩
                              have tx_26 : x_26.toInt = i.toInt + 1 := v_addR (l2 := 1) (h2 := 1) ex_26 g_i (by decide) (by decide) (by decide)
                              refine lv_iinc (v := x_26) (lv' := [(6, .int x_26), (7, .int x_18), (0, .ref ot), (1, .int fr), (2, .int n), (3, .int le), (4, .int sp)]) hx hb dX10_canTake_124 hl (k := 1) rfl (by rw [ex_26]; rfl) (by decide) rfl (fun ls hl => ?_)
                              refine lv_goto (tgt := 77) hx hb dX10_canTake_127 (by decide) ?_
                              exact ih_77 x_26 _ _ _ (ms_lt hm_77 (by show ((n.toInt - x_26.toInt : Int)) < n.toInt - i.toInt; omega) (by show (0 : Int) < n.toInt - i.toInt; omega)) (by show 0 ≤ x_26.toInt ∧ x_26.toInt ≤ 256; omega) (CTk_s hct ex_17 ex_18 (by omega) (by unfold isLz; omega) ((get_free (w := (fr.toInt + i.toInt).toNat) hf22_0 (by omega) (by omega) (by omega)).trans c_23) (bf_none hf24_0 c_25)) (hP.sub [1, 0, 2, 3] rfl) (hD.sub [1, 0, 2, 3] (by decide +kernel) rfl) hS (lv_sub hl [0, 2, 3, 4, 5, 6] rfl)
                            · have tc_25 : ¬ r_24.toInt = (-1) := v_ne c_25
                              refine lv_iconst (v := 0) hx hb dX10_canTake_122 (by decide) ?_
                              exact kl_z (v := 0) hQQ hx hb hr hlocks hS dX10_canTake_123 (rfl) ⟨kPD_sub hP hD [1, 0, 2, 3] (by decide +kernel) rfl, by decide, Or.inr ⟨rfl, CT_no ex_17 ex_18 (by omega) (by omega) (fun z => bf_some hf24_0 c_25 z.2.2)⟩⟩
                  exact LOOP_77 _ 0 _ _ _ (ms_s _) (by decide) (CTk_0 (by decide)) hP hD hS (lv_sub hl [0, 2, 3, 4, 5, 6] rfl)
                · have tc_15 : sp.toInt = 0 := v_eq c_15
                  refine lv_iload_n hx hb dX10_canTake_67 rfl (lv_at hl 3 rfl) ?_
                  refine lv_iconst (v := 1) hx hb dX10_canTake_68 (by decide) ?_
                  refine lv_icmp_le (tgt := 74) hx hb dX10_canTake_69 (by decide) (fun c_27 => ?_) (fun c_27 => ?_)
                  · have tc_27 : n.toInt ≤ 1 := v_le c_27
                    refine lv_iconst (v := 0) hx hb dX10_canTake_74 (by decide) ?_
                    refine lv_istore (lv' := [(6, .int 0), (5, .int 1), (0, .ref ot), (1, .int fr), (2, .int n), (3, .int le), (4, .int sp)]) hx hb dX10_canTake_75 hl (by decide) rfl (fun ls hl => ?_)
                    have LOOP_77 : ∀ (k_77 : Nat) (i : Int32) (H : Heap) (locs : List Loc) (ls : Array Slot), MSd (n.toInt - i.toInt : Int) k_77 → (0 ≤ i.toInt ∧ i.toInt ≤ 256) → (CTk i.toInt fr le sp (fun k => ft1 k = -1) (nT ft2 ft3)) → va_P (dC, dI) vwCl [(ot, .inr (10, [.ref at1, .ref at2, .ref at3, .int lt])), (at1, .inl (cI, 256, .inl ft1)), (at2, .inl (cI, 512, .inl ft2)), (at3, .inl (cI, 512, .inl ft3))] H → va_D A [(ot, .inr (10, [.ref at1, .ref at2, .ref at3, .int lt])), (at1, .inl (cI, 256, .inl ft1)), (at2, .inl (cI, 512, .inl ft2)), (at3, .inl (cI, 512, .inl ft3))] → va_S A s.heap H locs → lv_has ls 8 [(6, .int i), (0, .ref ot), (1, .int fr), (2, .int n), (3, .int le), (4, .int sp)] → W p l e (headSpec wsX10_canTake ({ frames := 2, cells := 0, slots := 0, locals := 46 } : Room)).room s m ([.ref ot, .int fr, .int n, .int le, .int sp] : List Value).toArray below meth c H locs 0 0 (MQ below QQ ([.ref ot, .int fr, .int n, .int le, .int sp] : List Value).toArray s 0 0 A) (F0 m 77 ls []) := by
                      clear hP hD hS hl
                      intro k_77
                      induction k_77 with
                      | zero =>
                        intro i H locs ls hm_77 g_i hct hP hD hS hl
                        exact ms_0 hm_77
                      | succ k_77 ih_77 =>
                        intro i H locs ls hm_77 g_i hct hP hD hS hl
                        refine lv_iload hx hb dX10_canTake_77 (lv_at hl 0 rfl) ?_
                        refine lv_iload_n hx hb dX10_canTake_79 rfl (lv_at hl 3 rfl) ?_
                        refine lv_icmp_ge (tgt := 130) hx hb dX10_canTake_80 (by decide) (fun c_28 => ?_) (fun c_28 => ?_)
                        · have tc_28 : n.toInt ≤ i.toInt := v_le c_28
                          refine lv_iconst (v := 1) hx hb dX10_canTake_130 (by decide) ?_
                          exact kl_z (v := 1) hQQ hx hb hr hlocks hS dX10_canTake_131 (rfl) ⟨⟨hP, hD⟩, by decide, Or.inl ⟨rfl, by unfold isLz; omega, CTk_le hct (by omega)⟩⟩
                        · have tc_28 : i.toInt < n.toInt := v_nle c_28
                          refine lv_iload_n hx hb dX10_canTake_83 rfl (lv_at hl 4 rfl) ?_
                          refine lv_iload hx hb dX10_canTake_84 (lv_at hl 0 rfl) ?_
                          refine lv_iload hx hb dX10_canTake_86 (lv_at hl 5 rfl) ?_
                          refine lv_imul hx hb dX10_canTake_88 ?_
                          refine lv_topi (fun x_29 ex_29 => ?_)
                          refine lv_iadd hx hb dX10_canTake_89 ?_
                          refine lv_topi (fun x_30 ex_30 => ?_)
                          have rv30_0 := v_rng le
                          have rv30_1 := v_rng x_29
                          refine lv_istore (lv' := [(7, .int x_30), (6, .int i), (0, .ref ot), (1, .int fr), (2, .int n), (3, .int le), (4, .int sp)]) hx hb dX10_canTake_90 hl (by decide) rfl (fun ls hl => ?_)
                          refine lv_iload hx hb dX10_canTake_92 (lv_at hl 0 rfl) ?_
                          refine kSN_i (rest := []) hcf (m_X11_isLetter l dC dI cI cS H.size x_30 ) ⟨va_cnB 1 hts gX10_canTake_X11_isLetter_n35 rfl rfl rfl hN35 (hts (.initialized RX11) (List.mem_of_getElem? (i := 2) rfl)) (by decide +kernel) ⟨Nat.le_of_ble_eq_true rfl, Nat.le_of_ble_eq_true rfl⟩, (hts (.static yX11_isLetter) (List.mem_of_getElem? (i := 1) rfl)), trivial⟩ kX_t hK hP hD hS hA [] [0, 1, 2, 3] rfl (by decide +kernel) rfl hl rfl (Nat.le_of_ble_eq_true rfl) dX10_canTake_94 ⟨Nat.le_of_ble_eq_true rfl, Nat.le_of_ble_eq_true rfl⟩ (fun r_31 H locs hB hJ hSn => ?_)
                          obtain ⟨⟨hP1, hD1⟩, hf31_0, hf31_1⟩ := hB
                          obtain ⟨hPn, hDn⟩ := hJ _ hP1 hD1 [(ot, .inr (10, [.ref at1, .ref at2, .ref at3, .int lt])), (at1, .inl (cI, 256, .inl ft1)), (at2, .inl (cI, 512, .inl ft2)), (at3, .inl (cI, 512, .inl ft3))] rfl
                          clear hP hD hS hJ hP1 hD1
                          have hP := hPn
                          have hD := hDn
                          have hS := hSn
                          clear hPn hDn hSn
                          refine lv_if_eq (tgt := 122) hx hb dX10_canTake_97 (by decide) (fun c_32 => ?_) (fun c_32 => ?_)
                          · have tc_32 : r_31.toInt = 0 := v_eq c_32
                            refine lv_iconst (v := 0) hx hb dX10_canTake_122 (by decide) ?_
                            exact kl_z (v := 0) hQQ hx hb hr hlocks hS dX10_canTake_123 (rfl) ⟨⟨hP, hD⟩, by decide, Or.inr ⟨rfl, CT_no ex_29 ex_30 (by omega) (by omega) (fun z => by have z1 := z.1; unfold isLz at z1; omega)⟩⟩
                          · have tc_32 : ¬ r_31.toInt = 0 := v_ne c_32
                            refine lv_aload_n hx hb dX10_canTake_100 rfl (lv_at hl 2 rfl) ?_
                            refine lv_iload_n hx hb dX10_canTake_101 rfl (lv_at hl 3 rfl) ?_
                            refine lv_iload hx hb dX10_canTake_102 (lv_at hl 1 rfl) ?_
                            refine lv_iadd hx hb dX10_canTake_104 ?_
                            refine lv_topi (fun x_33 ex_33 => ?_)
                            have tx_33 : x_33.toInt = fr.toInt + i.toInt := v_add ex_33 (by show -2147483648 ≤ fr.toInt + i.toInt; omega) (by show fr.toInt + i.toInt < 2147483648; omega)
                            refine kV_i (rest := []) (q0 := 0) (ci := 10) hcf (m_X10_letterFor l dC dI cI cS H.size ot at1 at2 at3 lt ft1 x_33 ) kc_X10_letterFor gX10_canTake_X10_letterFor rfl rfl rfl ⟨Nat.le_of_ble_eq_true rfl, Nat.le_of_ble_eq_true rfl⟩ kX_t hK hP hD hS hA [0, 1] [2, 3] rfl (by decide +kernel) rfl rfl rfl hl rfl (Nat.le_of_ble_eq_true rfl) dX10_canTake_105 ⟨Nat.le_of_ble_eq_true rfl, Nat.le_of_ble_eq_true rfl⟩ (fun r_34 H locs hB hJ hSn => ?_)
                            obtain ⟨⟨hP1, hD1⟩, hf34_0⟩ := hB
                            obtain ⟨hPn, hDn⟩ := hJ _ hP1 hD1 [(at2, .inl (cI, 512, .inl ft2)), (at3, .inl (cI, 512, .inl ft3)), (ot, .inr (10, [.ref at1, .ref at2, .ref at3, .int lt])), (at1, .inl (cI, 256, .inl ft1))] rfl
                            clear hP hD hS hJ hP1 hD1
                            have hP := hPn
                            have hD := hDn
                            have hS := hSn
                            clear hPn hDn hSn
                            refine lv_iconst (v := (-1)) hx hb dX10_canTake_108 (by decide) ?_
                            refine lv_icmp_ne (tgt := 122) hx hb dX10_canTake_109 (by decide) (fun c_35 => ?_) (fun c_35 => ?_)
                            · have tc_35 : ¬ r_34.toInt = (-1) := v_ne c_35
                              refine lv_iconst (v := 0) hx hb dX10_canTake_122 (by decide) ?_
                              exact kl_z (v := 0) hQQ hx hb hr hlocks hS dX10_canTake_123 (rfl) ⟨kPD_sub hP hD [2, 3, 0, 1] (by decide +kernel) rfl, by decide, Or.inr ⟨rfl, CT_no ex_29 ex_30 (by omega) (by omega) (fun z => c_35 ((get_free (w := (fr.toInt + i.toInt).toNat) hf34_0 (by omega) (by omega) (by omega)).symm.trans z.2.1))⟩⟩
                            · have tc_35 : r_34.toInt = (-1) := v_eq c_35
                              refine lv_aload_n hx hb dX10_canTake_112 rfl (lv_at hl 2 rfl) ?_
                              refine lv_iload hx hb dX10_canTake_113 (lv_at hl 0 rfl) ?_
                              refine kV_i (rest := []) (q0 := 0) (ci := 10) hcf (f_X10_byteFor l dC dI cI cS H.size ot at1 at2 at3 lt ft2 ft3 x_30 (hT) (ho)) kc_X10_byteFor gX10_canTake_X10_byteFor rfl rfl rfl ⟨Nat.le_of_ble_eq_true rfl, Nat.le_of_ble_eq_true rfl⟩ kX_t hK hP hD hS hA [2, 0, 1] [3] rfl (by decide +kernel) rfl rfl rfl hl rfl (Nat.le_of_ble_eq_true rfl) dX10_canTake_115 ⟨Nat.le_of_ble_eq_true rfl, Nat.le_of_ble_eq_true rfl⟩ (fun r_36 H locs hB hJ hSn => ?_)
                              obtain ⟨⟨hP1, hD1⟩, hf36_0⟩ := hB
                              obtain ⟨hPn, hDn⟩ := hJ _ hP1 hD1 [(at1, .inl (cI, 256, .inl ft1)), (ot, .inr (10, [.ref at1, .ref at2, .ref at3, .int lt])), (at2, .inl (cI, 512, .inl ft2)), (at3, .inl (cI, 512, .inl ft3))] rfl
                              clear hP hD hS hJ hP1 hD1
                              have hP := hPn
                              have hD := hDn
                              have hS := hSn
                              clear hPn hDn hSn
                              refine lv_iconst (v := (-1)) hx hb dX10_canTake_118 (by decide) ?_
                              refine lv_icmp_eq (tgt := 124) hx hb dX10_canTake_119 (by decide) (fun c_37 => ?_) (fun c_37 => ?_)
                              · have tc_37 : r_36.toInt = (-1) := v_eq c_37
                                obtain ⟨x_38, ex_38⟩ : ∃ y : Int32, y = i + 1 := ⟨_, rfl⟩
                                have tx_38 : x_38.toInt = i.toInt + 1 := v_addR (l2 := 1) (h2 := 1) ex_38 g_i (by decide) (by decide) (by decide)
                                refine lv_iinc (v := x_38) (lv' := [(6, .int x_38), (7, .int x_30), (0, .ref ot), (1, .int fr), (2, .int n), (3, .int le), (4, .int sp)]) hx hb dX10_canTake_124 hl (k := 1) rfl (by rw [ex_38]; rfl) (by decide) rfl (fun ls hl => ?_)
                                refine lv_goto (tgt := 77) hx hb dX10_canTake_127 (by decide) ?_
                                exact ih_77 x_38 _ _ _ (ms_lt hm_77 (by show ((n.toInt - x_38.toInt : Int)) < n.toInt - i.toInt; omega) (by show (0 : Int) < n.toInt - i.toInt; omega)) (by show 0 ≤ x_38.toInt ∧ x_38.toInt ≤ 256; omega) (CTk_s hct ex_29 ex_30 (by omega) (by unfold isLz; omega) ((get_free (w := (fr.toInt + i.toInt).toNat) hf34_0 (by omega) (by omega) (by omega)).trans c_35) (bf_none hf36_0 c_37)) (hP.sub [1, 0, 2, 3] rfl) (hD.sub [1, 0, 2, 3] (by decide +kernel) rfl) hS (lv_sub hl [0, 2, 3, 4, 5, 6] rfl)
                              · have tc_37 : ¬ r_36.toInt = (-1) := v_ne c_37
                                refine lv_iconst (v := 0) hx hb dX10_canTake_122 (by decide) ?_
                                exact kl_z (v := 0) hQQ hx hb hr hlocks hS dX10_canTake_123 (rfl) ⟨kPD_sub hP hD [1, 0, 2, 3] (by decide +kernel) rfl, by decide, Or.inr ⟨rfl, CT_no ex_29 ex_30 (by omega) (by omega) (fun z => bf_some hf36_0 c_37 z.2.2)⟩⟩
                    exact LOOP_77 _ 0 _ _ _ (ms_s _) (by decide) (CTk_0 (by decide)) hP hD hS (lv_sub hl [0, 2, 3, 4, 5, 6] rfl)
                  · have tc_27 : 1 < n.toInt := v_nle c_27
                    refine lv_iconst (v := 0) hx hb dX10_canTake_72 (by decide) ?_
                    exact kl_z (v := 0) hQQ hx hb hr hlocks hS dX10_canTake_73 (rfl) ⟨⟨hP, hD⟩, by decide, Or.inr ⟨rfl, fun h => by have h1 := h.1; unfold isLz at h1; omega⟩⟩
              · have tc_14 : r_13.toInt = 0 := v_eq c_14
                refine lv_iconst (v := 0) hx hb dX10_canTake_60 (by decide) ?_
                exact kl_z (v := 0) hQQ hx hb hr hlocks hS dX10_canTake_61 (rfl) ⟨⟨hP, hD⟩, by decide, Or.inr ⟨rfl, fun h => by have h1 := h.1; unfold isLz at h1; omega⟩⟩

set_option maxHeartbeats 40000000 in
set_option maxRecDepth 100000 in
theorem f_X10_tell (l : Launch) (dC : Nat → ClassId) (dI : Nat → Nat → Nat) (cI cS : ClassId) (sz : Nat) (ot : Nat) (at1 : Nat) (at2 : Nat) (at3 : Nat) (lt : Int32) (ft1 : Nat → Int32) (ft2 : Nat → Int32) (ft3 : Nat → Int32) (v : Int32) (le : Int32) (g_v : 0 ≤ v.toInt ∧ v.toInt ≤ 255) (hT : HT 512 511 hsT ft2 ft3) (ho : (occ ft3 512 : Int) ≤ 511) : kMv l yX10_tell wsX10_tell ({ frames := 1, cells := 0, slots := 0, locals := 24 } : Room) [.ref ot, .int v, .int le] sz (dC, dI) vwCl [(cI, .int), (cS, .short)] [(ot, .inr (10, [.ref at1, .ref at2, .ref at3, .int lt])), (at1, .inl (cI, 256, .inl ft1)), (at2, .inl (cI, 512, .inl ft2)), (at3, .inl (cI, 512, .inl ft3))] (fun _ => True) 0 0 (fun (A : Nat → Prop) (hh9 : Heap) => ∃ (lt' : Int32) (ft1' : Nat → Int32) (ft2' : Nat → Int32) (ft3' : Nat → Int32), kPD (dC, dI) vwCl A [(ot, .inr (10, [.ref at1, .ref at2, .ref at3, .int lt'])), (at1, .inl (cI, 256, .inl ft1')), (at2, .inl (cI, 512, .inl ft2')), (at3, .inl (cI, 512, .inl ft3'))] hh9 ∧ (F_tl lt lt' v le ft1 ft1' ft2 ft2' ft3 ft3')) := by
  refine kMv_of (cc := cX10_tell) (maxL := 4) (ret := none) (lv := [(0, .ref ot), (1, .int v), (2, .int le)]) (by decide +kernel) rfl rfl (Nat.le_of_ble_eq_true rfl) ?_
  intro p e s m below meth c A QQ ls hx hb hr hts hml hown hlocks hA hQQ hK hX hP hD hS hl
  have hown : s.vm.findClass RX10 = some m.cls := hown
  have hcf := k_cf hx hb hml hown hts
  have in_X10 : ∀ w ∈ wsX100, w ∈ wsX10_tell := fun _ h => List.mem_cons_of_mem _ (List.mem_append_right _ (h))
  refine lv_aload_n hx hb dX10_tell_0 rfl (lv_at hl 0 rfl) ?_
  refine lv_iload_n hx hb dX10_tell_1 rfl (lv_at hl 2 rfl) ?_
  refine kV_i (rest := []) (q0 := 0) (ci := 10) hcf (f_X10_placeFor l dC dI cI cS s.heap.size ot at1 at2 at3 lt ft2 ft3 le ) kc_X10_placeFor gX10_tell_X10_placeFor rfl rfl rfl ⟨Nat.le_of_ble_eq_true rfl, Nat.le_of_ble_eq_true rfl⟩ kX_t hK hP hD hS hA [0, 2, 3] [1] rfl (by decide +kernel) rfl rfl rfl hl rfl (Nat.le_of_ble_eq_true rfl) dX10_tell_2 ⟨Nat.le_of_ble_eq_true rfl, Nat.le_of_ble_eq_true rfl⟩ (fun r_1 H locs hB hJ hSn => ?_)
  obtain ⟨⟨hP1, hD1⟩, hf1_0, hf1_1⟩ := hB
  obtain ⟨hPn, hDn⟩ := hJ _ hP1 hD1 [(at1, .inl (cI, 256, .inl ft1)), (ot, .inr (10, [.ref at1, .ref at2, .ref at3, .int lt])), (at2, .inl (cI, 512, .inl ft2)), (at3, .inl (cI, 512, .inl ft3))] rfl
  clear hP hD hS hJ hP1 hD1
  have hP := hPn
  have hD := hDn
  have hS := hSn
  clear hPn hDn hSn
  obtain ⟨hpz1, hpf1⟩ := pfT_found hf1_1 ho
  refine lv_istore_n (lv' := [(3, .int r_1), (0, .ref ot), (1, .int v), (2, .int le)]) hx hb dX10_tell_5 rfl hl (by decide) rfl (fun ls hl => ?_)
  refine lv_iload_n hx hb dX10_tell_6 rfl (lv_at hl 0 rfl) ?_
  refine lv_iconst (v := (-1)) hx hb dX10_tell_7 (by decide) ?_
  refine lv_icmp_eq (tgt := 22) hx hb dX10_tell_8 (by decide) (fun c_2 => by exfalso; have tc_2 : r_1.toInt = (-1) := v_eq c_2; omega) (fun c_2 => ?_)
  have tc_2 : ¬ r_1.toInt = (-1) := v_ne c_2
  refine lv_iload_n hx hb dX10_tell_11 rfl (lv_at hl 2 rfl) ?_
  refine lv_if_lt (tgt := 22) hx hb dX10_tell_12 (by decide) (fun c_3 => by exfalso; have tc_3 : v.toInt < 0 := v_lt c_3; omega) (fun c_3 => ?_)
  have tc_3 : 0 ≤ v.toInt := v_nlt c_3
  refine lv_iload_n hx hb dX10_tell_15 rfl (lv_at hl 2 rfl) ?_
  refine lv_sipush (v := 256) hx hb dX10_tell_16 (by decide) ?_
  refine lv_icmp_lt (tgt := 23) hx hb dX10_tell_19 (by decide) (fun c_4 => ?_) (fun c_4 => by exfalso; have tc_4 : 256 ≤ v.toInt := v_nlt c_4; omega)
  have tc_4 : v.toInt < 256 := v_lt c_4
  refine lv_aload_n hx hb dX10_tell_23 rfl (lv_at hl 1 rfl) ?_
  refine va_get (D := (dC, dI)) (ci := 10) (v := .ref at1) (C := RX10) (T := TX10) (N := 4) hx hb hts in_X10 hown hK hP 1 rfl rfl 0 (by decide) (hts (.fieldLink RX10 9 "TextMender$ToldCode" "letterOf" "[I") (List.mem_of_getElem? (i := 1) rfl)) (fun _ h9 => h9) rfl dX10_tell_24 ?_
  refine lv_iload_n hx hb dX10_tell_27 rfl (lv_at hl 2 rfl) ?_
  refine lv_iload_n hx hb dX10_tell_28 rfl (lv_at hl 3 rfl) ?_
  obtain ⟨f_5, ef_5⟩ : ∃ g : Nat → Int32, g = upd ft1 (v : Int32).toNatClampNeg le := ⟨_, rfl⟩
  refine va_iast hx hb hK hP hD hS 0 0 rfl rfl (v_inR g_v (by decide) (by decide)) dX10_tell_29 (kWf (g := f_5) (F := fun f_5 => [(at1, .inl (cI, 256, .inl f_5)), (ot, .inr (10, [.ref at1, .ref at2, .ref at3, .int lt])), (at2, .inl (cI, 512, .inl ft2)), (at3, .inl (cI, 512, .inl ft3))]) ef_5 rfl (fun H locs hPn hDn hSn => ?_))
  clear hP hD hS
  have hP := hPn
  have hD := hDn
  have hS := hSn
  clear hPn hDn hSn
  refine lv_aload_n hx hb dX10_tell_30 rfl (lv_at hl 1 rfl) ?_
  refine va_get (D := (dC, dI)) (ci := 10) (v := .ref at2) (C := RX10) (T := TX10) (N := 4) hx hb hts in_X10 hown hK hP 1 rfl rfl 1 (by decide) (hts (.fieldLink RX10 15 "TextMender$ToldCode" "placeLetter" "[I") (List.mem_of_getElem? (i := 2) rfl)) (fun _ h9 => h9) rfl dX10_tell_31 ?_
  refine lv_iload_n hx hb dX10_tell_34 rfl (lv_at hl 0 rfl) ?_
  refine lv_iload_n hx hb dX10_tell_35 rfl (lv_at hl 3 rfl) ?_
  obtain ⟨f_6, ef_6⟩ : ∃ g : Nat → Int32, g = upd ft2 (r_1 : Int32).toNatClampNeg le := ⟨_, rfl⟩
  refine va_iast hx hb hK hP hD hS 2 0 rfl rfl (v_in (by omega)) dX10_tell_36 (kWf (g := f_6) (F := fun f_6 => [(at1, .inl (cI, 256, .inl f_5)), (ot, .inr (10, [.ref at1, .ref at2, .ref at3, .int lt])), (at2, .inl (cI, 512, .inl f_6)), (at3, .inl (cI, 512, .inl ft3))]) ef_6 rfl (fun H locs hPn hDn hSn => ?_))
  clear hP hD hS
  have hP := hPn
  have hD := hDn
  have hS := hSn
  clear hPn hDn hSn
  refine lv_aload_n hx hb dX10_tell_37 rfl (lv_at hl 1 rfl) ?_
  refine va_get (D := (dC, dI)) (ci := 10) (v := .ref at3) (C := RX10) (T := TX10) (N := 4) hx hb hts in_X10 hown hK hP 1 rfl rfl 2 (by decide) (hts (.fieldLink RX10 18 "TextMender$ToldCode" "placeByte" "[I") (List.mem_of_getElem? (i := 3) rfl)) (fun _ h9 => h9) rfl dX10_tell_38 ?_
  refine lv_iload_n hx hb dX10_tell_41 rfl (lv_at hl 0 rfl) ?_
  refine lv_iload_n hx hb dX10_tell_42 rfl (lv_at hl 2 rfl) ?_
  obtain ⟨f_7, ef_7⟩ : ∃ g : Nat → Int32, g = upd ft3 (r_1 : Int32).toNatClampNeg v := ⟨_, rfl⟩
  refine va_iast hx hb hK hP hD hS 3 0 rfl rfl (v_in (by omega)) dX10_tell_43 (kWf (g := f_7) (F := fun f_7 => [(at1, .inl (cI, 256, .inl f_5)), (ot, .inr (10, [.ref at1, .ref at2, .ref at3, .int lt])), (at2, .inl (cI, 512, .inl f_6)), (at3, .inl (cI, 512, .inl f_7))]) ef_7 rfl (fun H locs hPn hDn hSn => ?_))
  clear hP hD hS
  have hP := hPn
  have hD := hDn
  have hS := hSn
  clear hPn hDn hSn
  refine lv_aload_n hx hb dX10_tell_44 rfl (lv_at hl 1 rfl) ?_
  refine lv_dup hx hb dX10_tell_45 rfl ?_
  refine va_get (D := (dC, dI)) (ci := 10) (v := .int lt) (C := RX10) (T := TX10) (N := 4) hx hb hts in_X10 hown hK hP 1 rfl rfl 3 (by decide) (hts (.fieldLink RX10 27 "TextMender$ToldCode" "length" "I") (List.mem_of_getElem? (i := 4) rfl)) (fun _ h9 => h9) rfl dX10_tell_46 ?_
  refine lv_iconst (v := 1) hx hb dX10_tell_49 (by decide) ?_
  refine lv_iadd hx hb dX10_tell_50 ?_
  refine lv_topi (fun x_8 ex_8 => ?_)
  have rv8_0 := v_rng lt
  refine va_put (D := (dC, dI)) (ci := 10) (v := .int x_8) (ty := .int) (C := RX10) (T := TX10) (N := 4) hx hb hts in_X10 tyX10 tyX10_ok nmX10 hown hK hP hD hS 1 rfl rfl 3 (by decide) (hts (.fieldLink RX10 27 "TextMender$ToldCode" "length" "I") (List.mem_of_getElem? (i := 4) rfl)) (fun _ h9 => h9) rfl (by decide +kernel) rfl rfl (Nat.le_of_ble_eq_true rfl) dX10_tell_51 (kW (wn := [(at1, .inl (cI, 256, .inl f_5)), (ot, .inr (10, [.ref at1, .ref at2, .ref at3, .int x_8])), (at2, .inl (cI, 512, .inl f_6)), (at3, .inl (cI, 512, .inl f_7))]) rfl (fun H locs hPn hDn hSn => ?_))
  clear hP hD hS
  have hP := hPn
  have hD := hDn
  have hS := hSn
  clear hPn hDn hSn
  exact kl_v hQQ hx hb hr hlocks hS dX10_tell_54 ⟨x_8, f_5, f_6, f_7, kPD_sub hP hD [1, 0, 2, 3] (by decide +kernel) rfl, ⟨r_1, by omega, by omega, hpf1, ex_8, ef_5, ef_6, ef_7⟩⟩

set_option maxHeartbeats 40000000 in
set_option maxRecDepth 100000 in
theorem f_span_4 (l : Launch) (dC : Nat → ClassId) (dI : Nat → Nat → Nat) (cI cS : ClassId) (sz : Nat) (oX : Nat) (nT : Nat) (nL : Nat) (nM : Nat) (oC : Nat) (oP : Nat) (oH : Nat) (oK : Nat) (oG : Nat) (oR : Nat) (oQ : Nat) (oW : Nat) (o4 : Nat) (o5 : Nat) (a41 : Nat) (a42 : Nat) (a43 : Nat) (nw : Nat) (w1 : Nat) (w2 : Nat) (w3 : Nat) (o7 : Nat) (o8 : Nat) (o9 : Nat) (w4 : Nat) (w5 : Nat) (w6 : Nat) (w7 : Nat) (fa : Int32) (l4 : Int32) (f41 : Nat → Int32) (f42 : Nat → Int32) (f43 : Nat → Int32) (ke : Int32) (tl : Int32) (fsh : Int32) (wi : Int32) (ri : Int32) (fm : Int32) (lm : Int32) (cd : Int32) (fr : Int32) (n : Int32) (le : Int32) (sp : Int32) (g_ke : 0 ≤ ke.toInt ∧ ke.toInt ≤ 200) (g_fsh : 0 ≤ fsh.toInt ∧ fsh.toInt ≤ 1) (g_fm : -1 ≤ fm.toInt ∧ fm.toInt ≤ 800) (g_lm : -1 ≤ lm.toInt ∧ lm.toInt ≤ 800) (hcd : cd.toInt = 4) (hT : HT 512 511 hsT f42 f43) (hoo : occ f43 512 ≤ occ f41 256) : kMi l yX11_span wsX11_span ({ frames := 3, cells := 0, slots := 0, locals := 73 } : Room) [.ref oX, .int cd, .int fr, .int n, .int le, .int sp] sz (dC, dI) vwCl [(cI, .int), (cS, .short)] [(oX, .inr (11, [.ref nT, .ref nL, .ref nM, .ref oC, .ref oP, .ref oH, .ref oK, .ref oG, .ref oR, .ref oQ, .ref oW, .int fa])), (oC, .inr (2, [.ref o4, .ref o5])), (o4, .inr (10, [.ref a41, .ref a42, .ref a43, .int l4])), (a41, .inl (cI, 256, .inl f41)), (a42, .inl (cI, 512, .inl f42)), (a43, .inl (cI, 512, .inl f43)), (oW, .inr (1, [.ref oC, .ref oK, .ref nw, .ref w1, .ref w2, .ref w3, .ref o7, .ref o8, .ref o9, .ref w4, .ref w5, .ref w6, .ref w7, .int ke, .int tl, .int fsh, .int wi, .int ri, .int fm, .int lm]))] (va_Nw (.methodLinkNest RX10 35 yX11_isLetter "TextMender")) 0 0 (fun (A : Nat → Prop) (r : Int32) (hh9 : Heap) => ∃ (fa' : Int32) (fsh' : Int32) (l4' : Int32) (f41' : Nat → Int32) (f42' : Nat → Int32) (f43' : Nat → Int32), kPD (dC, dI) vwCl A [(oX, .inr (11, [.ref nT, .ref nL, .ref nM, .ref oC, .ref oP, .ref oH, .ref oK, .ref oG, .ref oR, .ref oQ, .ref oW, .int fa'])), (oC, .inr (2, [.ref o4, .ref o5])), (o4, .inr (10, [.ref a41, .ref a42, .ref a43, .int l4'])), (a41, .inl (cI, 256, .inl f41')), (a42, .inl (cI, 512, .inl f42')), (a43, .inl (cI, 512, .inl f43')), (oW, .inr (1, [.ref oC, .ref oK, .ref nw, .ref w1, .ref w2, .ref w3, .ref o7, .ref o8, .ref o9, .ref w4, .ref w5, .ref w6, .ref w7, .int ke, .int tl, .int fsh', .int wi, .int ri, .int fm, .int lm]))] hh9 ∧ (0 ≤ fsh'.toInt ∧ fsh'.toInt ≤ 1) ∧ (F_spanC r fr n le sp l4 l4' f41 f41' f42 f42' f43 f43') ∧ (F_fsP (CT fr n le sp (fun k => f41 k = -1) (nTd f42 f43)) fsh fsh')) := by
  refine kMi_of (cc := cX11_span) (maxL := 8) (ret := (some .int)) (lv := [(0, .ref oX), (1, .int cd), (2, .int fr), (3, .int n), (4, .int le), (5, .int sp)]) (by decide +kernel) rfl rfl (Nat.le_of_ble_eq_true rfl) ?_
  intro p e s m below meth c A QQ ls hx hb hr hts hml hown hlocks hA hQQ hK hX hP hD hS hl
  have hown : s.vm.findClass RX11 = some m.cls := hown
  have hcf := k_cf hx hb hml hown hts
  have hN35 := hX
  have in_X11 : ∀ w ∈ wsX110, w ∈ wsX11_span := fun _ h => List.mem_cons_of_mem _ (List.mem_append_left _ (List.mem_append_left _ (List.mem_append_left _ (List.mem_append_right _ (h)))))
  replace g_ke := hid g_ke
  replace g_fm := hid g_fm
  replace g_lm := hid g_lm
  refine lv_aload_n hx hb dX11_span_0 rfl (lv_at hl 0 rfl) ?_
  refine lv_iconst (v := (-1)) hx hb dX11_span_1 (by decide) ?_
  refine va_put (D := (dC, dI)) (ci := 11) (v := .int (-1)) (ty := .int) (C := RX11) (T := TX11) (N := 12) hx hb hts in_X11 tyX11 tyX11_ok nmX11 hown hK hP hD hS 0 rfl rfl 11 (by decide) (hts (.fieldLink RX11 90 "TextMender" "fault" "I") (List.mem_of_getElem? (i := 1) rfl)) (fun _ h9 => h9) rfl (by decide +kernel) rfl rfl (Nat.le_of_ble_eq_true rfl) dX11_span_2 (kW (wn := [(oX, .inr (11, [.ref nT, .ref nL, .ref nM, .ref oC, .ref oP, .ref oH, .ref oK, .ref oG, .ref oR, .ref oQ, .ref oW, .int (-1)])), (oC, .inr (2, [.ref o4, .ref o5])), (o4, .inr (10, [.ref a41, .ref a42, .ref a43, .int l4])), (a41, .inl (cI, 256, .inl f41)), (a42, .inl (cI, 512, .inl f42)), (a43, .inl (cI, 512, .inl f43)), (oW, .inr (1, [.ref oC, .ref oK, .ref nw, .ref w1, .ref w2, .ref w3, .ref o7, .ref o8, .ref o9, .ref w4, .ref w5, .ref w6, .ref w7, .int ke, .int tl, .int fsh, .int wi, .int ri, .int fm, .int lm]))]) rfl (fun H locs hPn hDn hSn => ?_))
  clear hP hD hS
  have hP := hPn
  have hD := hDn
  have hS := hSn
  clear hPn hDn hSn
  refine lv_aload_n hx hb dX11_span_5 rfl (lv_at hl 0 rfl) ?_
  refine va_get (D := (dC, dI)) (ci := 11) (v := .ref oC) (C := RX11) (T := TX11) (N := 12) hx hb hts in_X11 hown hK hP 0 rfl rfl 3 (by decide) (hts (.fieldLink RX11 40 "TextMender" "codes" "LTextMender$Codes;") (List.mem_of_getElem? (i := 2) rfl)) (fun _ h9 => h9) rfl dX11_span_6 ?_
  refine lv_iload_n hx hb dX11_span_9 rfl (lv_at hl 1 rfl) ?_
  refine kV_r (rest := []) (q0 := 0) (ci := 2) hcf (m_X2_toldCode_4 l dC dI cI cS H.size oC o4 o5 cd (by omega)) kc_X2_toldCode gX11_span_X2_toldCode rfl rfl rfl ⟨Nat.le_of_ble_eq_true rfl, Nat.le_of_ble_eq_true rfl⟩ kX_t hK hP hD hS hA [1] [0, 2, 3, 4, 5, 6] rfl (by decide +kernel) rfl rfl rfl hl rfl (Nat.le_of_ble_eq_true rfl) dX11_span_10 ⟨Nat.le_of_ble_eq_true rfl, Nat.le_of_ble_eq_true rfl⟩ (fun r_1 H locs hB hJ hSn => ?_)
  obtain ⟨hra, ⟨hP1, hD1⟩⟩ := hB
  rw [hra]
  obtain ⟨hPn, hDn⟩ := hJ _ hP1 hD1 [(oX, .inr (11, [.ref nT, .ref nL, .ref nM, .ref oC, .ref oP, .ref oH, .ref oK, .ref oG, .ref oR, .ref oQ, .ref oW, .int (-1)])), (o4, .inr (10, [.ref a41, .ref a42, .ref a43, .int l4])), (a41, .inl (cI, 256, .inl f41)), (a42, .inl (cI, 512, .inl f42)), (a43, .inl (cI, 512, .inl f43)), (oW, .inr (1, [.ref oC, .ref oK, .ref nw, .ref w1, .ref w2, .ref w3, .ref o7, .ref o8, .ref o9, .ref w4, .ref w5, .ref w6, .ref w7, .int ke, .int tl, .int fsh, .int wi, .int ri, .int fm, .int lm])), (oC, .inr (2, [.ref o4, .ref o5]))] rfl
  clear hP hD hS hJ hP1 hD1
  have hP := hPn
  have hD := hDn
  have hS := hSn
  clear hPn hDn hSn
  refine lv_astore (lv' := [(6, .ref o4), (0, .ref oX), (1, .int cd), (2, .int fr), (3, .int n), (4, .int le), (5, .int sp)]) hx hb dX11_span_13 hl (by decide) rfl (fun ls hl => ?_)
  refine lv_aload hx hb dX11_span_15 (lv_at hl 0 rfl) ?_
  refine lv_ifnull hx hb dX11_span_17 ?_
  refine lv_aload hx hb dX11_span_20 (lv_at hl 0 rfl) ?_
  refine lv_iload_n hx hb dX11_span_22 rfl (lv_at hl 3 rfl) ?_
  refine lv_iload_n hx hb dX11_span_23 rfl (lv_at hl 4 rfl) ?_
  refine lv_iload hx hb dX11_span_24 (lv_at hl 5 rfl) ?_
  refine lv_iload hx hb dX11_span_26 (lv_at hl 6 rfl) ?_
  refine kV_i (rest := []) (q0 := 0) (ci := 10) hcf (f_X10_canTake l dC dI cI cS H.size o4 a41 a42 a43 l4 f41 f42 f43 fr n le sp (hT) (occ_511 hoo)) kc_X10_canTake gX11_span_X10_canTake rfl rfl rfl ⟨Nat.le_of_ble_eq_true rfl, Nat.le_of_ble_eq_true rfl⟩ (kX_1 hN35) hK hP hD hS hA [1, 2, 3, 4] [0, 5, 6] rfl (by decide +kernel) rfl rfl rfl hl rfl (Nat.le_of_ble_eq_true rfl) dX11_span_28 ⟨Nat.le_of_ble_eq_true rfl, Nat.le_of_ble_eq_true rfl⟩ (fun r_2 H locs hB hJ hSn => ?_)
  obtain ⟨⟨hP1, hD1⟩, hf2_0, hf2_1⟩ := hB
  obtain ⟨hPn, hDn⟩ := hJ _ hP1 hD1 [(oX, .inr (11, [.ref nT, .ref nL, .ref nM, .ref oC, .ref oP, .ref oH, .ref oK, .ref oG, .ref oR, .ref oQ, .ref oW, .int (-1)])), (oW, .inr (1, [.ref oC, .ref oK, .ref nw, .ref w1, .ref w2, .ref w3, .ref o7, .ref o8, .ref o9, .ref w4, .ref w5, .ref w6, .ref w7, .int ke, .int tl, .int fsh, .int wi, .int ri, .int fm, .int lm])), (oC, .inr (2, [.ref o4, .ref o5])), (o4, .inr (10, [.ref a41, .ref a42, .ref a43, .int l4])), (a41, .inl (cI, 256, .inl f41)), (a42, .inl (cI, 512, .inl f42)), (a43, .inl (cI, 512, .inl f43))] rfl
  clear hP hD hS hJ hP1 hD1
  have hP := hPn
  have hD := hDn
  have hS := hSn
  clear hPn hDn hSn
  refine lv_if_ne (tgt := 36) hx hb dX11_span_31 (by decide) (fun c_3 => ?_) (fun c_3 => ?_)
  · have tc_3 : ¬ r_2.toInt = 0 := v_ne c_3
    refine lv_iconst (v := 0) hx hb dX11_span_36 (by decide) ?_
    refine lv_istore (lv' := [(7, .int 0), (6, .ref o4), (0, .ref oX), (1, .int cd), (2, .int fr), (3, .int n), (4, .int le), (5, .int sp)]) hx hb dX11_span_37 hl (by decide) rfl (fun ls hl => ?_)
    have hCT := F_ct_1 hf2_1 (by omega)
    obtain ⟨hb1, hb2, hb3, hb4, hb5, hb6, hb7, hb8⟩ := hCT.1
    have LOOP_39 : ∀ (k_39 : Nat) (i : Int32) (l4a : Int32) (f41a : Nat → Int32) (f42a : Nat → Int32) (f43a : Nat → Int32) (H : Heap) (locs : List Loc) (ls : Array Slot), MSd (256 - i.toInt : Int) k_39 → (0 ≤ i.toInt ∧ i.toInt ≤ 256) → (i.toInt ≤ n.toInt) → (SPC i l4 l4a fr le sp f41 f42 f43 f41a f42a f43a) → va_P (dC, dI) vwCl [(oX, .inr (11, [.ref nT, .ref nL, .ref nM, .ref oC, .ref oP, .ref oH, .ref oK, .ref oG, .ref oR, .ref oQ, .ref oW, .int (-1)])), (oW, .inr (1, [.ref oC, .ref oK, .ref nw, .ref w1, .ref w2, .ref w3, .ref o7, .ref o8, .ref o9, .ref w4, .ref w5, .ref w6, .ref w7, .int ke, .int tl, .int fsh, .int wi, .int ri, .int fm, .int lm])), (oC, .inr (2, [.ref o4, .ref o5])), (o4, .inr (10, [.ref a41, .ref a42, .ref a43, .int l4a])), (a41, .inl (cI, 256, .inl f41a)), (a42, .inl (cI, 512, .inl f42a)), (a43, .inl (cI, 512, .inl f43a))] H → va_D A [(oX, .inr (11, [.ref nT, .ref nL, .ref nM, .ref oC, .ref oP, .ref oH, .ref oK, .ref oG, .ref oR, .ref oQ, .ref oW, .int (-1)])), (oW, .inr (1, [.ref oC, .ref oK, .ref nw, .ref w1, .ref w2, .ref w3, .ref o7, .ref o8, .ref o9, .ref w4, .ref w5, .ref w6, .ref w7, .int ke, .int tl, .int fsh, .int wi, .int ri, .int fm, .int lm])), (oC, .inr (2, [.ref o4, .ref o5])), (o4, .inr (10, [.ref a41, .ref a42, .ref a43, .int l4a])), (a41, .inl (cI, 256, .inl f41a)), (a42, .inl (cI, 512, .inl f42a)), (a43, .inl (cI, 512, .inl f43a))] → va_S A s.heap H locs → lv_has ls 8 [(7, .int i), (6, .ref o4), (0, .ref oX), (1, .int cd), (2, .int fr), (3, .int n), (4, .int le), (5, .int sp)] → W p l e (headSpec wsX11_span ({ frames := 3, cells := 0, slots := 0, locals := 73 } : Room)).room s m ([.ref oX, .int cd, .int fr, .int n, .int le, .int sp] : List Value).toArray below meth c H locs 0 0 (MQ below QQ ([.ref oX, .int cd, .int fr, .int n, .int le, .int sp] : List Value).toArray s 0 0 A) (F0 m 39 ls []) := by
      clear hP hD hS hl
      try (clear hcd)
      intro k_39
      induction k_39 with
      | zero =>
        intro i l4a f41a f42a f43a H locs ls hm_39 g_i hin hsp hP hD hS hl
        exact ms_0 hm_39
      | succ k_39 ih_39 =>
        intro i l4a f41a f42a f43a H locs ls hm_39 g_i hin hsp hP hD hS hl
        refine lv_iload hx hb dX11_span_39 (lv_at hl 0 rfl) ?_
        refine lv_iload_n hx hb dX11_span_41 rfl (lv_at hl 5 rfl) ?_
        refine lv_icmp_ge (tgt := 68) hx hb dX11_span_42 (by decide) (fun c_4 => ?_) (fun c_4 => ?_)
        · have tc_4 : n.toInt ≤ i.toInt := v_le c_4
          refine lv_aload_n hx hb dX11_span_68 rfl (lv_at hl 2 rfl) ?_
          refine va_get (D := (dC, dI)) (ci := 11) (v := .ref oW) (C := RX11) (T := TX11) (N := 12) hx hb hts in_X11 hown hK hP 0 rfl rfl 10 (by decide) (hts (.fieldLink RX11 86 "TextMender" "choiceBook" "LTextMender$Choices;") (List.mem_of_getElem? (i := 3) rfl)) (fun _ h9 => h9) rfl dX11_span_69 ?_
          refine kV_v (rest := []) (q0 := 0) (ci := 1) hcf (f_X1_forgetFreshness l dC dI cI cS H.size oW oC oK nw w1 w2 w3 o7 o8 o9 w4 w5 w6 w7 ke tl fsh wi ri fm lm (g_ke) (g_fsh) (g_fm) (g_lm)) kc_X1_forgetFreshness gX11_span_X1_forgetFreshness rfl rfl rfl ⟨Nat.le_of_ble_eq_true rfl, Nat.le_of_ble_eq_true rfl⟩ kX_t hK hP hD hS hA [1] [0, 2, 3, 4, 5, 6] rfl (by decide +kernel) rfl rfl rfl hl rfl (Nat.le_of_ble_eq_true rfl) dX11_span_72 ⟨Nat.le_of_ble_eq_true rfl, Nat.le_of_ble_eq_true rfl⟩ (fun H locs hB hJ hSn => ?_)
          obtain ⟨fsh_5, ⟨hP1, hD1⟩, hf5_0, hf5_1⟩ := hB
          obtain ⟨hPn, hDn⟩ := hJ _ hP1 hD1 [(oX, .inr (11, [.ref nT, .ref nL, .ref nM, .ref oC, .ref oP, .ref oH, .ref oK, .ref oG, .ref oR, .ref oQ, .ref oW, .int (-1)])), (oC, .inr (2, [.ref o4, .ref o5])), (o4, .inr (10, [.ref a41, .ref a42, .ref a43, .int l4a])), (a41, .inl (cI, 256, .inl f41a)), (a42, .inl (cI, 512, .inl f42a)), (a43, .inl (cI, 512, .inl f43a)), (oW, .inr (1, [.ref oC, .ref oK, .ref nw, .ref w1, .ref w2, .ref w3, .ref o7, .ref o8, .ref o9, .ref w4, .ref w5, .ref w6, .ref w7, .int ke, .int tl, .int fsh_5, .int wi, .int ri, .int fm, .int lm]))] rfl
          clear hP hD hS hJ hP1 hD1
          have hP := hPn
          have hD := hDn
          have hS := hSn
          clear hPn hDn hSn
          refine lv_aload hx hb dX11_span_75 (lv_at hl 1 rfl) ?_
          refine kV_i (rest := []) (q0 := 0) (ci := 10) hcf (m_X10_length l dC dI cI cS H.size o4 a41 a42 a43 l4a ) kc_X10_length gX11_span_X10_length rfl rfl rfl ⟨Nat.le_of_ble_eq_true rfl, Nat.le_of_ble_eq_true rfl⟩ kX_t hK hP hD hS hA [2] [0, 1, 3, 4, 5, 6] rfl (by decide +kernel) rfl rfl rfl hl rfl (Nat.le_of_ble_eq_true rfl) dX11_span_77 ⟨Nat.le_of_ble_eq_true rfl, Nat.le_of_ble_eq_true rfl⟩ (fun r_6 H locs hB hJ hSn => ?_)
          obtain ⟨⟨hP1, hD1⟩, hf6_0⟩ := hB
          obtain ⟨hPn, hDn⟩ := hJ _ hP1 hD1 [(oX, .inr (11, [.ref nT, .ref nL, .ref nM, .ref oC, .ref oP, .ref oH, .ref oK, .ref oG, .ref oR, .ref oQ, .ref oW, .int (-1)])), (oC, .inr (2, [.ref o4, .ref o5])), (a41, .inl (cI, 256, .inl f41a)), (a42, .inl (cI, 512, .inl f42a)), (a43, .inl (cI, 512, .inl f43a)), (oW, .inr (1, [.ref oC, .ref oK, .ref nw, .ref w1, .ref w2, .ref w3, .ref o7, .ref o8, .ref o9, .ref w4, .ref w5, .ref w6, .ref w7, .int ke, .int tl, .int fsh_5, .int wi, .int ri, .int fm, .int lm])), (o4, .inr (10, [.ref a41, .ref a42, .ref a43, .int l4a]))] rfl
          clear hP hD hS hJ hP1 hD1
          have hP := hPn
          have hD := hDn
          have hS := hSn
          clear hPn hDn hSn
          rw [hf6_0]
          exact kl_i (v := l4a) hQQ hx hb hr hlocks hS dX11_span_80 ⟨(-1), fsh_5, l4a, f41a, f42a, f43a, kPD_sub hP hD [0, 1, 6, 2, 3, 4, 5] (by decide +kernel) rfl, hf5_0, Or.inl ⟨hCT, SPC_n hsp (by omega), rfl⟩, Or.inl ⟨hCT, hf5_1⟩⟩
        · have tc_4 : i.toInt < n.toInt := v_nle c_4
          refine lv_aload hx hb dX11_span_45 (lv_at hl 1 rfl) ?_
          refine lv_iload_n hx hb dX11_span_47 rfl (lv_at hl 4 rfl) ?_
          refine lv_iload hx hb dX11_span_48 (lv_at hl 0 rfl) ?_
          refine lv_iadd hx hb dX11_span_50 ?_
          refine lv_topi (fun x_7 ex_7 => ?_)
          have tx_7 : x_7.toInt = fr.toInt + i.toInt := v_add ex_7 (by show -2147483648 ≤ fr.toInt + i.toInt; omega) (by show fr.toInt + i.toInt < 2147483648; omega)
          refine lv_iload hx hb dX11_span_51 (lv_at hl 6 rfl) ?_
          refine lv_iload hx hb dX11_span_53 (lv_at hl 0 rfl) ?_
          refine lv_iload hx hb dX11_span_55 (lv_at hl 7 rfl) ?_
          refine lv_imul hx hb dX11_span_57 ?_
          refine lv_topi (fun x_8 ex_8 => ?_)
          have rv8_1 := v_rng sp
          refine lv_iadd hx hb dX11_span_58 ?_
          refine lv_topi (fun x_9 ex_9 => ?_)
          have rv9_0 := v_rng le
          have rv9_1 := v_rng x_8
          refine kV_v (rest := []) (q0 := 0) (ci := 10) hcf (f_X10_tell l dC dI cI cS H.size o4 a41 a42 a43 l4a f41a f42a f43a x_7 x_9 (by omega) (hsp.2.1) (occ_511 hsp.2.2.1)) kc_X10_tell gX11_span_X10_tell rfl rfl rfl ⟨Nat.le_of_ble_eq_true rfl, Nat.le_of_ble_eq_true rfl⟩ kX_t hK hP hD hS hA [3, 4, 5, 6] [0, 1, 2] rfl (by decide +kernel) rfl rfl rfl hl rfl (Nat.le_of_ble_eq_true rfl) dX11_span_59 ⟨Nat.le_of_ble_eq_true rfl, Nat.le_of_ble_eq_true rfl⟩ (fun H locs hB hJ hSn => ?_)
          obtain ⟨lt_10, ft1_10, ft2_10, ft3_10, ⟨hP1, hD1⟩, hf10_0⟩ := hB
          obtain ⟨hPn, hDn⟩ := hJ _ hP1 hD1 [(oX, .inr (11, [.ref nT, .ref nL, .ref nM, .ref oC, .ref oP, .ref oH, .ref oK, .ref oG, .ref oR, .ref oQ, .ref oW, .int (-1)])), (oW, .inr (1, [.ref oC, .ref oK, .ref nw, .ref w1, .ref w2, .ref w3, .ref o7, .ref o8, .ref o9, .ref w4, .ref w5, .ref w6, .ref w7, .int ke, .int tl, .int fsh, .int wi, .int ri, .int fm, .int lm])), (oC, .inr (2, [.ref o4, .ref o5])), (o4, .inr (10, [.ref a41, .ref a42, .ref a43, .int lt_10])), (a41, .inl (cI, 256, .inl ft1_10)), (a42, .inl (cI, 512, .inl ft2_10)), (a43, .inl (cI, 512, .inl ft3_10))] rfl
          clear hP hD hS hJ hP1 hD1
          have hP := hPn
          have hD := hDn
          have hS := hSn
          clear hPn hDn hSn
          obtain ⟨x_11, ex_11⟩ : ∃ y : Int32, y = i + 1 := ⟨_, rfl⟩
          have tx_11 : x_11.toInt = i.toInt + 1 := v_addR (l2 := 1) (h2 := 1) ex_11 g_i (by decide) (by decide) (by decide)
          refine lv_iinc (v := x_11) (lv' := [(7, .int x_11), (6, .ref o4), (0, .ref oX), (1, .int cd), (2, .int fr), (3, .int n), (4, .int le), (5, .int sp)]) hx hb dX11_span_62 hl (k := 0) rfl (by rw [ex_11]; rfl) (by decide) rfl (fun ls hl => ?_)
          refine lv_goto (tgt := 39) hx hb dX11_span_65 (by decide) ?_
          exact ih_39 x_11 lt_10 ft1_10 ft2_10 ft3_10 _ _ _ (ms_lt hm_39 (by show ((256 - x_11.toInt : Int)) < 256 - i.toInt; omega) (by show (0 : Int) < 256 - i.toInt; omega)) (by show 0 ≤ x_11.toInt ∧ x_11.toInt ≤ 256; omega) (by show x_11.toInt ≤ n.toInt; omega) (SPC_s hCT hsp (by omega) (by omega) ex_8 ex_9 (by omega) hf10_0 (by omega)) hP hD hS (lv_sub hl [0, 1, 2, 3, 4, 5, 6, 7] rfl)
    exact LOOP_39 _ 0 l4 f41 f42 f43 _ _ _ (ms_s _) (by decide) (by show 0 ≤ n.toInt; omega) (SPC_0 hT hoo) hP hD hS (lv_sub hl [0, 1, 2, 3, 4, 5, 6, 7] rfl)
  · have tc_3 : r_2.toInt = 0 := v_eq c_3
    refine lv_iconst (v := (-1)) hx hb dX11_span_34 (by decide) ?_
    exact kl_i (v := (-1)) hQQ hx hb hr hlocks hS dX11_span_35 ⟨(-1), fsh, l4, f41, f42, f43, kPD_sub hP hD [0, 2, 3, 4, 5, 6, 1] (by decide +kernel) rfl, g_fsh, Or.inr ⟨rfl, rfl, rfl, rfl, rfl, F_ct_0 hf2_1 (by omega)⟩, Or.inr ⟨F_ct_0 hf2_1 (by omega), rfl⟩⟩

set_option maxHeartbeats 40000000 in
set_option maxRecDepth 100000 in
theorem f_blank_4 (l : Launch) (dC : Nat → ClassId) (dI : Nat → Nat → Nat) (cI cS : ClassId) (sz : Nat) (oX : Nat) (nT : Nat) (nL : Nat) (nM : Nat) (oC : Nat) (oP : Nat) (oH : Nat) (oK : Nat) (oG : Nat) (oR : Nat) (oQ : Nat) (oW : Nat) (o4 : Nat) (o5 : Nat) (a41 : Nat) (a42 : Nat) (a43 : Nat) (nw : Nat) (w1 : Nat) (w2 : Nat) (w3 : Nat) (o7 : Nat) (o8 : Nat) (o9 : Nat) (w4 : Nat) (w5 : Nat) (w6 : Nat) (w7 : Nat) (fa : Int32) (l4 : Int32) (f41 : Nat → Int32) (f43 : Nat → Int32) (ke : Int32) (tl : Int32) (fsh : Int32) (wi : Int32) (ri : Int32) (fm : Int32) (lm : Int32) (cd : Int32) (g_ke : 0 ≤ ke.toInt ∧ ke.toInt ≤ 200) (g_fsh : 0 ≤ fsh.toInt ∧ fsh.toInt ≤ 1) (g_fm : -1 ≤ fm.toInt ∧ fm.toInt ≤ 800) (g_lm : -1 ≤ lm.toInt ∧ lm.toInt ≤ 800) (hcd : cd.toInt = 4) : kMi l yX11_blank wsX11_blank ({ frames := 2, cells := 0, slots := 0, locals := 43 } : Room) [.ref oX, .int cd] sz (dC, dI) vwCl [(cI, .int), (cS, .short)] [(oX, .inr (11, [.ref nT, .ref nL, .ref nM, .ref oC, .ref oP, .ref oH, .ref oK, .ref oG, .ref oR, .ref oQ, .ref oW, .int fa])), (oC, .inr (2, [.ref o4, .ref o5])), (o4, .inr (10, [.ref a41, .ref a42, .ref a43, .int l4])), (a41, .inl (cI, 256, .inl f41)), (a43, .inl (cI, 512, .inl f43)), (oW, .inr (1, [.ref oC, .ref oK, .ref nw, .ref w1, .ref w2, .ref w3, .ref o7, .ref o8, .ref o9, .ref w4, .ref w5, .ref w6, .ref w7, .int ke, .int tl, .int fsh, .int wi, .int ri, .int fm, .int lm]))] (fun _ => True) 0 0 (fun (A : Nat → Prop) (r : Int32) (hh9 : Heap) => ∃ (fsh' : Int32) (l4' : Int32) (f41' : Nat → Int32) (f43' : Nat → Int32), kPD (dC, dI) vwCl A [(oX, .inr (11, [.ref nT, .ref nL, .ref nM, .ref oC, .ref oP, .ref oH, .ref oK, .ref oG, .ref oR, .ref oQ, .ref oW, .int fa])), (oC, .inr (2, [.ref o4, .ref o5])), (o4, .inr (10, [.ref a41, .ref a42, .ref a43, .int l4'])), (a41, .inl (cI, 256, .inl f41')), (a43, .inl (cI, 512, .inl f43')), (oW, .inr (1, [.ref oC, .ref oK, .ref nw, .ref w1, .ref w2, .ref w3, .ref o7, .ref o8, .ref o9, .ref w4, .ref w5, .ref w6, .ref w7, .int ke, .int tl, .int fsh', .int wi, .int ri, .int fm, .int lm]))] hh9 ∧ (0 ≤ fsh'.toInt ∧ fsh'.toInt ≤ 1) ∧ (r = 1) ∧ (l4' = 0) ∧ (F_fill 256 f41' (-1)) ∧ (F_fill 512 f43' (-1)) ∧ (fsh' = 0)) := by
  refine kMi_of (cc := cX11_blank) (maxL := 3) (ret := (some .boolean)) (lv := [(0, .ref oX), (1, .int cd)]) (by decide +kernel) rfl rfl (Nat.le_of_ble_eq_true rfl) ?_
  intro p e s m below meth c A QQ ls hx hb hr hts hml hown hlocks hA hQQ hK hX hP hD hS hl
  have hown : s.vm.findClass RX11 = some m.cls := hown
  have hcf := k_cf hx hb hml hown hts
  have in_X11 : ∀ w ∈ wsX110, w ∈ wsX11_blank := fun _ h => List.mem_cons_of_mem _ (List.mem_append_left _ (List.mem_append_left _ (List.mem_append_left _ (List.mem_append_right _ (h)))))
  replace g_ke := hid g_ke
  replace g_fsh := hid g_fsh
  replace g_fm := hid g_fm
  replace g_lm := hid g_lm
  refine lv_aload_n hx hb dX11_blank_0 rfl (lv_at hl 0 rfl) ?_
  refine va_get (D := (dC, dI)) (ci := 11) (v := .ref oC) (C := RX11) (T := TX11) (N := 12) hx hb hts in_X11 hown hK hP 0 rfl rfl 3 (by decide) (hts (.fieldLink RX11 40 "TextMender" "codes" "LTextMender$Codes;") (List.mem_of_getElem? (i := 1) rfl)) (fun _ h9 => h9) rfl dX11_blank_1 ?_
  refine lv_iload_n hx hb dX11_blank_4 rfl (lv_at hl 1 rfl) ?_
  refine kV_r (rest := []) (q0 := 0) (ci := 2) hcf (m_X2_toldCode_4 l dC dI cI cS s.heap.size oC o4 o5 cd (by omega)) kc_X2_toldCode gX11_blank_X2_toldCode rfl rfl rfl ⟨Nat.le_of_ble_eq_true rfl, Nat.le_of_ble_eq_true rfl⟩ kX_t hK hP hD hS hA [1] [0, 2, 3, 4, 5] rfl (by decide +kernel) rfl rfl rfl hl rfl (Nat.le_of_ble_eq_true rfl) dX11_blank_5 ⟨Nat.le_of_ble_eq_true rfl, Nat.le_of_ble_eq_true rfl⟩ (fun r_1 H locs hB hJ hSn => ?_)
  obtain ⟨hra, ⟨hP1, hD1⟩⟩ := hB
  rw [hra]
  obtain ⟨hPn, hDn⟩ := hJ _ hP1 hD1 [(oX, .inr (11, [.ref nT, .ref nL, .ref nM, .ref oC, .ref oP, .ref oH, .ref oK, .ref oG, .ref oR, .ref oQ, .ref oW, .int fa])), (o4, .inr (10, [.ref a41, .ref a42, .ref a43, .int l4])), (a41, .inl (cI, 256, .inl f41)), (a43, .inl (cI, 512, .inl f43)), (oW, .inr (1, [.ref oC, .ref oK, .ref nw, .ref w1, .ref w2, .ref w3, .ref o7, .ref o8, .ref o9, .ref w4, .ref w5, .ref w6, .ref w7, .int ke, .int tl, .int fsh, .int wi, .int ri, .int fm, .int lm])), (oC, .inr (2, [.ref o4, .ref o5]))] rfl
  clear hP hD hS hJ hP1 hD1
  have hP := hPn
  have hD := hDn
  have hS := hSn
  clear hPn hDn hSn
  refine lv_astore_n (lv' := [(2, .ref o4), (0, .ref oX), (1, .int cd)]) hx hb dX11_blank_8 rfl hl (by decide) rfl (fun ls hl => ?_)
  refine lv_aload_n hx hb dX11_blank_9 rfl (lv_at hl 0 rfl) ?_
  refine lv_ifnonnull (tgt := 15) hx hb dX11_blank_10 (by decide) ?_
  refine lv_aload_n hx hb dX11_blank_15 rfl (lv_at hl 0 rfl) ?_
  refine kV_v (rest := []) (q0 := 0) (ci := 10) hcf (m_X10_empty l dC dI cI cS H.size o4 a41 a42 a43 l4 f41 f43 ) kc_X10_empty gX11_blank_X10_empty rfl rfl rfl ⟨Nat.le_of_ble_eq_true rfl, Nat.le_of_ble_eq_true rfl⟩ kX_t hK hP hD hS hA [1, 2, 3] [0, 4, 5] rfl (by decide +kernel) rfl rfl rfl hl rfl (Nat.le_of_ble_eq_true rfl) dX11_blank_16 ⟨Nat.le_of_ble_eq_true rfl, Nat.le_of_ble_eq_true rfl⟩ (fun H locs hB hJ hSn => ?_)
  obtain ⟨lt_2, ft1_2, ft3_2, ⟨hP1, hD1⟩, hf2_0, hf2_1, hf2_2⟩ := hB
  obtain ⟨hPn, hDn⟩ := hJ _ hP1 hD1 [(oX, .inr (11, [.ref nT, .ref nL, .ref nM, .ref oC, .ref oP, .ref oH, .ref oK, .ref oG, .ref oR, .ref oQ, .ref oW, .int fa])), (oW, .inr (1, [.ref oC, .ref oK, .ref nw, .ref w1, .ref w2, .ref w3, .ref o7, .ref o8, .ref o9, .ref w4, .ref w5, .ref w6, .ref w7, .int ke, .int tl, .int fsh, .int wi, .int ri, .int fm, .int lm])), (oC, .inr (2, [.ref o4, .ref o5])), (o4, .inr (10, [.ref a41, .ref a42, .ref a43, .int lt_2])), (a41, .inl (cI, 256, .inl ft1_2)), (a43, .inl (cI, 512, .inl ft3_2))] rfl
  clear hP hD hS hJ hP1 hD1
  have hP := hPn
  have hD := hDn
  have hS := hSn
  clear hPn hDn hSn
  refine lv_aload_n hx hb dX11_blank_19 rfl (lv_at hl 1 rfl) ?_
  refine va_get (D := (dC, dI)) (ci := 11) (v := .ref oW) (C := RX11) (T := TX11) (N := 12) hx hb hts in_X11 hown hK hP 0 rfl rfl 10 (by decide) (hts (.fieldLink RX11 86 "TextMender" "choiceBook" "LTextMender$Choices;") (List.mem_of_getElem? (i := 2) rfl)) (fun _ h9 => h9) rfl dX11_blank_20 ?_
  refine kV_v (rest := []) (q0 := 0) (ci := 1) hcf (f_X1_forgetFreshness l dC dI cI cS H.size oW oC oK nw w1 w2 w3 o7 o8 o9 w4 w5 w6 w7 ke tl fsh wi ri fm lm (g_ke) (g_fsh) (g_fm) (g_lm)) kc_X1_forgetFreshness gX11_blank_X1_forgetFreshness rfl rfl rfl ⟨Nat.le_of_ble_eq_true rfl, Nat.le_of_ble_eq_true rfl⟩ kX_t hK hP hD hS hA [1] [0, 2, 3, 4, 5] rfl (by decide +kernel) rfl rfl rfl hl rfl (Nat.le_of_ble_eq_true rfl) dX11_blank_23 ⟨Nat.le_of_ble_eq_true rfl, Nat.le_of_ble_eq_true rfl⟩ (fun H locs hB hJ hSn => ?_)
  obtain ⟨fsh_3, ⟨hP1, hD1⟩, hf3_0, hf3_1⟩ := hB
  obtain ⟨hPn, hDn⟩ := hJ _ hP1 hD1 [(oX, .inr (11, [.ref nT, .ref nL, .ref nM, .ref oC, .ref oP, .ref oH, .ref oK, .ref oG, .ref oR, .ref oQ, .ref oW, .int fa])), (oC, .inr (2, [.ref o4, .ref o5])), (o4, .inr (10, [.ref a41, .ref a42, .ref a43, .int lt_2])), (a41, .inl (cI, 256, .inl ft1_2)), (a43, .inl (cI, 512, .inl ft3_2)), (oW, .inr (1, [.ref oC, .ref oK, .ref nw, .ref w1, .ref w2, .ref w3, .ref o7, .ref o8, .ref o9, .ref w4, .ref w5, .ref w6, .ref w7, .int ke, .int tl, .int fsh_3, .int wi, .int ri, .int fm, .int lm]))] rfl
  clear hP hD hS hJ hP1 hD1
  have hP := hPn
  have hD := hDn
  have hS := hSn
  clear hPn hDn hSn
  refine lv_iconst (v := 1) hx hb dX11_blank_26 (by decide) ?_
  exact kl_z (v := 1) hQQ hx hb hr hlocks hS dX11_blank_27 (rfl) ⟨fsh_3, lt_2, ft1_2, ft3_2, ⟨hP, hD⟩, hf3_0, rfl, hf2_0, hf2_1, hf2_2, hf3_1⟩

set_option maxHeartbeats 40000000 in
set_option maxRecDepth 100000 in
theorem f_span_5 (l : Launch) (dC : Nat → ClassId) (dI : Nat → Nat → Nat) (cI cS : ClassId) (sz : Nat) (oX : Nat) (nT : Nat) (nL : Nat) (nM : Nat) (oC : Nat) (oP : Nat) (oH : Nat) (oK : Nat) (oG : Nat) (oR : Nat) (oQ : Nat) (oW : Nat) (o4 : Nat) (o5 : Nat) (a51 : Nat) (a52 : Nat) (a53 : Nat) (nw : Nat) (w1 : Nat) (w2 : Nat) (w3 : Nat) (o7 : Nat) (o8 : Nat) (o9 : Nat) (w4 : Nat) (w5 : Nat) (w6 : Nat) (w7 : Nat) (fa : Int32) (l5 : Int32) (f51 : Nat → Int32) (f52 : Nat → Int32) (f53 : Nat → Int32) (ke : Int32) (tl : Int32) (fsh : Int32) (wi : Int32) (ri : Int32) (fm : Int32) (lm : Int32) (cd : Int32) (fr : Int32) (n : Int32) (le : Int32) (sp : Int32) (g_ke : 0 ≤ ke.toInt ∧ ke.toInt ≤ 200) (g_fsh : 0 ≤ fsh.toInt ∧ fsh.toInt ≤ 1) (g_fm : -1 ≤ fm.toInt ∧ fm.toInt ≤ 800) (g_lm : -1 ≤ lm.toInt ∧ lm.toInt ≤ 800) (hcd : cd.toInt = 5) (hT : HT 512 511 hsT f52 f53) (hoo : occ f53 512 ≤ occ f51 256) : kMi l yX11_span wsX11_span ({ frames := 3, cells := 0, slots := 0, locals := 73 } : Room) [.ref oX, .int cd, .int fr, .int n, .int le, .int sp] sz (dC, dI) vwCl [(cI, .int), (cS, .short)] [(oX, .inr (11, [.ref nT, .ref nL, .ref nM, .ref oC, .ref oP, .ref oH, .ref oK, .ref oG, .ref oR, .ref oQ, .ref oW, .int fa])), (oC, .inr (2, [.ref o4, .ref o5])), (o5, .inr (10, [.ref a51, .ref a52, .ref a53, .int l5])), (a51, .inl (cI, 256, .inl f51)), (a52, .inl (cI, 512, .inl f52)), (a53, .inl (cI, 512, .inl f53)), (oW, .inr (1, [.ref oC, .ref oK, .ref nw, .ref w1, .ref w2, .ref w3, .ref o7, .ref o8, .ref o9, .ref w4, .ref w5, .ref w6, .ref w7, .int ke, .int tl, .int fsh, .int wi, .int ri, .int fm, .int lm]))] (va_Nw (.methodLinkNest RX10 35 yX11_isLetter "TextMender")) 0 0 (fun (A : Nat → Prop) (r : Int32) (hh9 : Heap) => ∃ (fa' : Int32) (fsh' : Int32) (l5' : Int32) (f51' : Nat → Int32) (f52' : Nat → Int32) (f53' : Nat → Int32), kPD (dC, dI) vwCl A [(oX, .inr (11, [.ref nT, .ref nL, .ref nM, .ref oC, .ref oP, .ref oH, .ref oK, .ref oG, .ref oR, .ref oQ, .ref oW, .int fa'])), (oC, .inr (2, [.ref o4, .ref o5])), (o5, .inr (10, [.ref a51, .ref a52, .ref a53, .int l5'])), (a51, .inl (cI, 256, .inl f51')), (a52, .inl (cI, 512, .inl f52')), (a53, .inl (cI, 512, .inl f53')), (oW, .inr (1, [.ref oC, .ref oK, .ref nw, .ref w1, .ref w2, .ref w3, .ref o7, .ref o8, .ref o9, .ref w4, .ref w5, .ref w6, .ref w7, .int ke, .int tl, .int fsh', .int wi, .int ri, .int fm, .int lm]))] hh9 ∧ (0 ≤ fsh'.toInt ∧ fsh'.toInt ≤ 1) ∧ (F_spanC r fr n le sp l5 l5' f51 f51' f52 f52' f53 f53') ∧ (F_fsP (CT fr n le sp (fun k => f51 k = -1) (nTd f52 f53)) fsh fsh')) := by
  refine kMi_of (cc := cX11_span) (maxL := 8) (ret := (some .int)) (lv := [(0, .ref oX), (1, .int cd), (2, .int fr), (3, .int n), (4, .int le), (5, .int sp)]) (by decide +kernel) rfl rfl (Nat.le_of_ble_eq_true rfl) ?_
  intro p e s m below meth c A QQ ls hx hb hr hts hml hown hlocks hA hQQ hK hX hP hD hS hl
  have hown : s.vm.findClass RX11 = some m.cls := hown
  have hcf := k_cf hx hb hml hown hts
  have hN35 := hX
  have in_X11 : ∀ w ∈ wsX110, w ∈ wsX11_span := fun _ h => List.mem_cons_of_mem _ (List.mem_append_left _ (List.mem_append_left _ (List.mem_append_left _ (List.mem_append_right _ (h)))))
  replace g_ke := hid g_ke
  replace g_fm := hid g_fm
  replace g_lm := hid g_lm
  refine lv_aload_n hx hb dX11_span_0 rfl (lv_at hl 0 rfl) ?_
  refine lv_iconst (v := (-1)) hx hb dX11_span_1 (by decide) ?_
  refine va_put (D := (dC, dI)) (ci := 11) (v := .int (-1)) (ty := .int) (C := RX11) (T := TX11) (N := 12) hx hb hts in_X11 tyX11 tyX11_ok nmX11 hown hK hP hD hS 0 rfl rfl 11 (by decide) (hts (.fieldLink RX11 90 "TextMender" "fault" "I") (List.mem_of_getElem? (i := 1) rfl)) (fun _ h9 => h9) rfl (by decide +kernel) rfl rfl (Nat.le_of_ble_eq_true rfl) dX11_span_2 (kW (wn := [(oX, .inr (11, [.ref nT, .ref nL, .ref nM, .ref oC, .ref oP, .ref oH, .ref oK, .ref oG, .ref oR, .ref oQ, .ref oW, .int (-1)])), (oC, .inr (2, [.ref o4, .ref o5])), (o5, .inr (10, [.ref a51, .ref a52, .ref a53, .int l5])), (a51, .inl (cI, 256, .inl f51)), (a52, .inl (cI, 512, .inl f52)), (a53, .inl (cI, 512, .inl f53)), (oW, .inr (1, [.ref oC, .ref oK, .ref nw, .ref w1, .ref w2, .ref w3, .ref o7, .ref o8, .ref o9, .ref w4, .ref w5, .ref w6, .ref w7, .int ke, .int tl, .int fsh, .int wi, .int ri, .int fm, .int lm]))]) rfl (fun H locs hPn hDn hSn => ?_))
  clear hP hD hS
  have hP := hPn
  have hD := hDn
  have hS := hSn
  clear hPn hDn hSn
  refine lv_aload_n hx hb dX11_span_5 rfl (lv_at hl 0 rfl) ?_
  refine va_get (D := (dC, dI)) (ci := 11) (v := .ref oC) (C := RX11) (T := TX11) (N := 12) hx hb hts in_X11 hown hK hP 0 rfl rfl 3 (by decide) (hts (.fieldLink RX11 40 "TextMender" "codes" "LTextMender$Codes;") (List.mem_of_getElem? (i := 2) rfl)) (fun _ h9 => h9) rfl dX11_span_6 ?_
  refine lv_iload_n hx hb dX11_span_9 rfl (lv_at hl 1 rfl) ?_
  refine kV_r (rest := []) (q0 := 0) (ci := 2) hcf (m_X2_toldCode_5 l dC dI cI cS H.size oC o4 o5 cd (by omega)) kc_X2_toldCode gX11_span_X2_toldCode rfl rfl rfl ⟨Nat.le_of_ble_eq_true rfl, Nat.le_of_ble_eq_true rfl⟩ kX_t hK hP hD hS hA [1] [0, 2, 3, 4, 5, 6] rfl (by decide +kernel) rfl rfl rfl hl rfl (Nat.le_of_ble_eq_true rfl) dX11_span_10 ⟨Nat.le_of_ble_eq_true rfl, Nat.le_of_ble_eq_true rfl⟩ (fun r_1 H locs hB hJ hSn => ?_)
  obtain ⟨hra, ⟨hP1, hD1⟩⟩ := hB
  rw [hra]
  obtain ⟨hPn, hDn⟩ := hJ _ hP1 hD1 [(oX, .inr (11, [.ref nT, .ref nL, .ref nM, .ref oC, .ref oP, .ref oH, .ref oK, .ref oG, .ref oR, .ref oQ, .ref oW, .int (-1)])), (o5, .inr (10, [.ref a51, .ref a52, .ref a53, .int l5])), (a51, .inl (cI, 256, .inl f51)), (a52, .inl (cI, 512, .inl f52)), (a53, .inl (cI, 512, .inl f53)), (oW, .inr (1, [.ref oC, .ref oK, .ref nw, .ref w1, .ref w2, .ref w3, .ref o7, .ref o8, .ref o9, .ref w4, .ref w5, .ref w6, .ref w7, .int ke, .int tl, .int fsh, .int wi, .int ri, .int fm, .int lm])), (oC, .inr (2, [.ref o4, .ref o5]))] rfl
  clear hP hD hS hJ hP1 hD1
  have hP := hPn
  have hD := hDn
  have hS := hSn
  clear hPn hDn hSn
  refine lv_astore (lv' := [(6, .ref o5), (0, .ref oX), (1, .int cd), (2, .int fr), (3, .int n), (4, .int le), (5, .int sp)]) hx hb dX11_span_13 hl (by decide) rfl (fun ls hl => ?_)
  refine lv_aload hx hb dX11_span_15 (lv_at hl 0 rfl) ?_
  refine lv_ifnull hx hb dX11_span_17 ?_
  refine lv_aload hx hb dX11_span_20 (lv_at hl 0 rfl) ?_
  refine lv_iload_n hx hb dX11_span_22 rfl (lv_at hl 3 rfl) ?_
  refine lv_iload_n hx hb dX11_span_23 rfl (lv_at hl 4 rfl) ?_
  refine lv_iload hx hb dX11_span_24 (lv_at hl 5 rfl) ?_
  refine lv_iload hx hb dX11_span_26 (lv_at hl 6 rfl) ?_
  refine kV_i (rest := []) (q0 := 0) (ci := 10) hcf (f_X10_canTake l dC dI cI cS H.size o5 a51 a52 a53 l5 f51 f52 f53 fr n le sp (hT) (occ_511 hoo)) kc_X10_canTake gX11_span_X10_canTake rfl rfl rfl ⟨Nat.le_of_ble_eq_true rfl, Nat.le_of_ble_eq_true rfl⟩ (kX_1 hN35) hK hP hD hS hA [1, 2, 3, 4] [0, 5, 6] rfl (by decide +kernel) rfl rfl rfl hl rfl (Nat.le_of_ble_eq_true rfl) dX11_span_28 ⟨Nat.le_of_ble_eq_true rfl, Nat.le_of_ble_eq_true rfl⟩ (fun r_2 H locs hB hJ hSn => ?_)
  obtain ⟨⟨hP1, hD1⟩, hf2_0, hf2_1⟩ := hB
  obtain ⟨hPn, hDn⟩ := hJ _ hP1 hD1 [(oX, .inr (11, [.ref nT, .ref nL, .ref nM, .ref oC, .ref oP, .ref oH, .ref oK, .ref oG, .ref oR, .ref oQ, .ref oW, .int (-1)])), (oW, .inr (1, [.ref oC, .ref oK, .ref nw, .ref w1, .ref w2, .ref w3, .ref o7, .ref o8, .ref o9, .ref w4, .ref w5, .ref w6, .ref w7, .int ke, .int tl, .int fsh, .int wi, .int ri, .int fm, .int lm])), (oC, .inr (2, [.ref o4, .ref o5])), (o5, .inr (10, [.ref a51, .ref a52, .ref a53, .int l5])), (a51, .inl (cI, 256, .inl f51)), (a52, .inl (cI, 512, .inl f52)), (a53, .inl (cI, 512, .inl f53))] rfl
  clear hP hD hS hJ hP1 hD1
  have hP := hPn
  have hD := hDn
  have hS := hSn
  clear hPn hDn hSn
  refine lv_if_ne (tgt := 36) hx hb dX11_span_31 (by decide) (fun c_3 => ?_) (fun c_3 => ?_)
  · have tc_3 : ¬ r_2.toInt = 0 := v_ne c_3
    refine lv_iconst (v := 0) hx hb dX11_span_36 (by decide) ?_
    refine lv_istore (lv' := [(7, .int 0), (6, .ref o5), (0, .ref oX), (1, .int cd), (2, .int fr), (3, .int n), (4, .int le), (5, .int sp)]) hx hb dX11_span_37 hl (by decide) rfl (fun ls hl => ?_)
    have hCT := F_ct_1 hf2_1 (by omega)
    obtain ⟨hb1, hb2, hb3, hb4, hb5, hb6, hb7, hb8⟩ := hCT.1
    have LOOP_39 : ∀ (k_39 : Nat) (i : Int32) (l5a : Int32) (f51a : Nat → Int32) (f52a : Nat → Int32) (f53a : Nat → Int32) (H : Heap) (locs : List Loc) (ls : Array Slot), MSd (256 - i.toInt : Int) k_39 → (0 ≤ i.toInt ∧ i.toInt ≤ 256) → (i.toInt ≤ n.toInt) → (SPC i l5 l5a fr le sp f51 f52 f53 f51a f52a f53a) → va_P (dC, dI) vwCl [(oX, .inr (11, [.ref nT, .ref nL, .ref nM, .ref oC, .ref oP, .ref oH, .ref oK, .ref oG, .ref oR, .ref oQ, .ref oW, .int (-1)])), (oW, .inr (1, [.ref oC, .ref oK, .ref nw, .ref w1, .ref w2, .ref w3, .ref o7, .ref o8, .ref o9, .ref w4, .ref w5, .ref w6, .ref w7, .int ke, .int tl, .int fsh, .int wi, .int ri, .int fm, .int lm])), (oC, .inr (2, [.ref o4, .ref o5])), (o5, .inr (10, [.ref a51, .ref a52, .ref a53, .int l5a])), (a51, .inl (cI, 256, .inl f51a)), (a52, .inl (cI, 512, .inl f52a)), (a53, .inl (cI, 512, .inl f53a))] H → va_D A [(oX, .inr (11, [.ref nT, .ref nL, .ref nM, .ref oC, .ref oP, .ref oH, .ref oK, .ref oG, .ref oR, .ref oQ, .ref oW, .int (-1)])), (oW, .inr (1, [.ref oC, .ref oK, .ref nw, .ref w1, .ref w2, .ref w3, .ref o7, .ref o8, .ref o9, .ref w4, .ref w5, .ref w6, .ref w7, .int ke, .int tl, .int fsh, .int wi, .int ri, .int fm, .int lm])), (oC, .inr (2, [.ref o4, .ref o5])), (o5, .inr (10, [.ref a51, .ref a52, .ref a53, .int l5a])), (a51, .inl (cI, 256, .inl f51a)), (a52, .inl (cI, 512, .inl f52a)), (a53, .inl (cI, 512, .inl f53a))] → va_S A s.heap H locs → lv_has ls 8 [(7, .int i), (6, .ref o5), (0, .ref oX), (1, .int cd), (2, .int fr), (3, .int n), (4, .int le), (5, .int sp)] → W p l e (headSpec wsX11_span ({ frames := 3, cells := 0, slots := 0, locals := 73 } : Room)).room s m ([.ref oX, .int cd, .int fr, .int n, .int le, .int sp] : List Value).toArray below meth c H locs 0 0 (MQ below QQ ([.ref oX, .int cd, .int fr, .int n, .int le, .int sp] : List Value).toArray s 0 0 A) (F0 m 39 ls []) := by
      clear hP hD hS hl
      try (clear hcd)
      intro k_39
      induction k_39 with
      | zero =>
        intro i l5a f51a f52a f53a H locs ls hm_39 g_i hin hsp hP hD hS hl
        exact ms_0 hm_39
      | succ k_39 ih_39 =>
        intro i l5a f51a f52a f53a H locs ls hm_39 g_i hin hsp hP hD hS hl
        refine lv_iload hx hb dX11_span_39 (lv_at hl 0 rfl) ?_
        refine lv_iload_n hx hb dX11_span_41 rfl (lv_at hl 5 rfl) ?_
        refine lv_icmp_ge (tgt := 68) hx hb dX11_span_42 (by decide) (fun c_4 => ?_) (fun c_4 => ?_)
        · have tc_4 : n.toInt ≤ i.toInt := v_le c_4
          refine lv_aload_n hx hb dX11_span_68 rfl (lv_at hl 2 rfl) ?_
          refine va_get (D := (dC, dI)) (ci := 11) (v := .ref oW) (C := RX11) (T := TX11) (N := 12) hx hb hts in_X11 hown hK hP 0 rfl rfl 10 (by decide) (hts (.fieldLink RX11 86 "TextMender" "choiceBook" "LTextMender$Choices;") (List.mem_of_getElem? (i := 3) rfl)) (fun _ h9 => h9) rfl dX11_span_69 ?_
          refine kV_v (rest := []) (q0 := 0) (ci := 1) hcf (f_X1_forgetFreshness l dC dI cI cS H.size oW oC oK nw w1 w2 w3 o7 o8 o9 w4 w5 w6 w7 ke tl fsh wi ri fm lm (g_ke) (g_fsh) (g_fm) (g_lm)) kc_X1_forgetFreshness gX11_span_X1_forgetFreshness rfl rfl rfl ⟨Nat.le_of_ble_eq_true rfl, Nat.le_of_ble_eq_true rfl⟩ kX_t hK hP hD hS hA [1] [0, 2, 3, 4, 5, 6] rfl (by decide +kernel) rfl rfl rfl hl rfl (Nat.le_of_ble_eq_true rfl) dX11_span_72 ⟨Nat.le_of_ble_eq_true rfl, Nat.le_of_ble_eq_true rfl⟩ (fun H locs hB hJ hSn => ?_)
          obtain ⟨fsh_5, ⟨hP1, hD1⟩, hf5_0, hf5_1⟩ := hB
          obtain ⟨hPn, hDn⟩ := hJ _ hP1 hD1 [(oX, .inr (11, [.ref nT, .ref nL, .ref nM, .ref oC, .ref oP, .ref oH, .ref oK, .ref oG, .ref oR, .ref oQ, .ref oW, .int (-1)])), (oC, .inr (2, [.ref o4, .ref o5])), (o5, .inr (10, [.ref a51, .ref a52, .ref a53, .int l5a])), (a51, .inl (cI, 256, .inl f51a)), (a52, .inl (cI, 512, .inl f52a)), (a53, .inl (cI, 512, .inl f53a)), (oW, .inr (1, [.ref oC, .ref oK, .ref nw, .ref w1, .ref w2, .ref w3, .ref o7, .ref o8, .ref o9, .ref w4, .ref w5, .ref w6, .ref w7, .int ke, .int tl, .int fsh_5, .int wi, .int ri, .int fm, .int lm]))] rfl
          clear hP hD hS hJ hP1 hD1
          have hP := hPn
          have hD := hDn
          have hS := hSn
          clear hPn hDn hSn
          refine lv_aload hx hb dX11_span_75 (lv_at hl 1 rfl) ?_
          refine kV_i (rest := []) (q0 := 0) (ci := 10) hcf (m_X10_length l dC dI cI cS H.size o5 a51 a52 a53 l5a ) kc_X10_length gX11_span_X10_length rfl rfl rfl ⟨Nat.le_of_ble_eq_true rfl, Nat.le_of_ble_eq_true rfl⟩ kX_t hK hP hD hS hA [2] [0, 1, 3, 4, 5, 6] rfl (by decide +kernel) rfl rfl rfl hl rfl (Nat.le_of_ble_eq_true rfl) dX11_span_77 ⟨Nat.le_of_ble_eq_true rfl, Nat.le_of_ble_eq_true rfl⟩ (fun r_6 H locs hB hJ hSn => ?_)
          obtain ⟨⟨hP1, hD1⟩, hf6_0⟩ := hB
          obtain ⟨hPn, hDn⟩ := hJ _ hP1 hD1 [(oX, .inr (11, [.ref nT, .ref nL, .ref nM, .ref oC, .ref oP, .ref oH, .ref oK, .ref oG, .ref oR, .ref oQ, .ref oW, .int (-1)])), (oC, .inr (2, [.ref o4, .ref o5])), (a51, .inl (cI, 256, .inl f51a)), (a52, .inl (cI, 512, .inl f52a)), (a53, .inl (cI, 512, .inl f53a)), (oW, .inr (1, [.ref oC, .ref oK, .ref nw, .ref w1, .ref w2, .ref w3, .ref o7, .ref o8, .ref o9, .ref w4, .ref w5, .ref w6, .ref w7, .int ke, .int tl, .int fsh_5, .int wi, .int ri, .int fm, .int lm])), (o5, .inr (10, [.ref a51, .ref a52, .ref a53, .int l5a]))] rfl
          clear hP hD hS hJ hP1 hD1
          have hP := hPn
          have hD := hDn
          have hS := hSn
          clear hPn hDn hSn
          rw [hf6_0]
          exact kl_i (v := l5a) hQQ hx hb hr hlocks hS dX11_span_80 ⟨(-1), fsh_5, l5a, f51a, f52a, f53a, kPD_sub hP hD [0, 1, 6, 2, 3, 4, 5] (by decide +kernel) rfl, hf5_0, Or.inl ⟨hCT, SPC_n hsp (by omega), rfl⟩, Or.inl ⟨hCT, hf5_1⟩⟩
        · have tc_4 : i.toInt < n.toInt := v_nle c_4
          refine lv_aload hx hb dX11_span_45 (lv_at hl 1 rfl) ?_
          refine lv_iload_n hx hb dX11_span_47 rfl (lv_at hl 4 rfl) ?_
          refine lv_iload hx hb dX11_span_48 (lv_at hl 0 rfl) ?_
          refine lv_iadd hx hb dX11_span_50 ?_
          refine lv_topi (fun x_7 ex_7 => ?_)
          have tx_7 : x_7.toInt = fr.toInt + i.toInt := v_add ex_7 (by show -2147483648 ≤ fr.toInt + i.toInt; omega) (by show fr.toInt + i.toInt < 2147483648; omega)
          refine lv_iload hx hb dX11_span_51 (lv_at hl 6 rfl) ?_
          refine lv_iload hx hb dX11_span_53 (lv_at hl 0 rfl) ?_
          refine lv_iload hx hb dX11_span_55 (lv_at hl 7 rfl) ?_
          refine lv_imul hx hb dX11_span_57 ?_
          refine lv_topi (fun x_8 ex_8 => ?_)
          have rv8_1 := v_rng sp
          refine lv_iadd hx hb dX11_span_58 ?_
          refine lv_topi (fun x_9 ex_9 => ?_)
          have rv9_0 := v_rng le
          have rv9_1 := v_rng x_8
          refine kV_v (rest := []) (q0 := 0) (ci := 10) hcf (f_X10_tell l dC dI cI cS H.size o5 a51 a52 a53 l5a f51a f52a f53a x_7 x_9 (by omega) (hsp.2.1) (occ_511 hsp.2.2.1)) kc_X10_tell gX11_span_X10_tell rfl rfl rfl ⟨Nat.le_of_ble_eq_true rfl, Nat.le_of_ble_eq_true rfl⟩ kX_t hK hP hD hS hA [3, 4, 5, 6] [0, 1, 2] rfl (by decide +kernel) rfl rfl rfl hl rfl (Nat.le_of_ble_eq_true rfl) dX11_span_59 ⟨Nat.le_of_ble_eq_true rfl, Nat.le_of_ble_eq_true rfl⟩ (fun H locs hB hJ hSn => ?_)
          obtain ⟨lt_10, ft1_10, ft2_10, ft3_10, ⟨hP1, hD1⟩, hf10_0⟩ := hB
          obtain ⟨hPn, hDn⟩ := hJ _ hP1 hD1 [(oX, .inr (11, [.ref nT, .ref nL, .ref nM, .ref oC, .ref oP, .ref oH, .ref oK, .ref oG, .ref oR, .ref oQ, .ref oW, .int (-1)])), (oW, .inr (1, [.ref oC, .ref oK, .ref nw, .ref w1, .ref w2, .ref w3, .ref o7, .ref o8, .ref o9, .ref w4, .ref w5, .ref w6, .ref w7, .int ke, .int tl, .int fsh, .int wi, .int ri, .int fm, .int lm])), (oC, .inr (2, [.ref o4, .ref o5])), (o5, .inr (10, [.ref a51, .ref a52, .ref a53, .int lt_10])), (a51, .inl (cI, 256, .inl ft1_10)), (a52, .inl (cI, 512, .inl ft2_10)), (a53, .inl (cI, 512, .inl ft3_10))] rfl
          clear hP hD hS hJ hP1 hD1
          have hP := hPn
          have hD := hDn
          have hS := hSn
          clear hPn hDn hSn
          obtain ⟨x_11, ex_11⟩ : ∃ y : Int32, y = i + 1 := ⟨_, rfl⟩
          have tx_11 : x_11.toInt = i.toInt + 1 := v_addR (l2 := 1) (h2 := 1) ex_11 g_i (by decide) (by decide) (by decide)
          refine lv_iinc (v := x_11) (lv' := [(7, .int x_11), (6, .ref o5), (0, .ref oX), (1, .int cd), (2, .int fr), (3, .int n), (4, .int le), (5, .int sp)]) hx hb dX11_span_62 hl (k := 0) rfl (by rw [ex_11]; rfl) (by decide) rfl (fun ls hl => ?_)
          refine lv_goto (tgt := 39) hx hb dX11_span_65 (by decide) ?_
          exact ih_39 x_11 lt_10 ft1_10 ft2_10 ft3_10 _ _ _ (ms_lt hm_39 (by show ((256 - x_11.toInt : Int)) < 256 - i.toInt; omega) (by show (0 : Int) < 256 - i.toInt; omega)) (by show 0 ≤ x_11.toInt ∧ x_11.toInt ≤ 256; omega) (by show x_11.toInt ≤ n.toInt; omega) (SPC_s hCT hsp (by omega) (by omega) ex_8 ex_9 (by omega) hf10_0 (by omega)) hP hD hS (lv_sub hl [0, 1, 2, 3, 4, 5, 6, 7] rfl)
    exact LOOP_39 _ 0 l5 f51 f52 f53 _ _ _ (ms_s _) (by decide) (by show 0 ≤ n.toInt; omega) (SPC_0 hT hoo) hP hD hS (lv_sub hl [0, 1, 2, 3, 4, 5, 6, 7] rfl)
  · have tc_3 : r_2.toInt = 0 := v_eq c_3
    refine lv_iconst (v := (-1)) hx hb dX11_span_34 (by decide) ?_
    exact kl_i (v := (-1)) hQQ hx hb hr hlocks hS dX11_span_35 ⟨(-1), fsh, l5, f51, f52, f53, kPD_sub hP hD [0, 2, 3, 4, 5, 6, 1] (by decide +kernel) rfl, g_fsh, Or.inr ⟨rfl, rfl, rfl, rfl, rfl, F_ct_0 hf2_1 (by omega)⟩, Or.inr ⟨F_ct_0 hf2_1 (by omega), rfl⟩⟩

set_option maxHeartbeats 40000000 in
set_option maxRecDepth 100000 in
theorem f_blank_5 (l : Launch) (dC : Nat → ClassId) (dI : Nat → Nat → Nat) (cI cS : ClassId) (sz : Nat) (oX : Nat) (nT : Nat) (nL : Nat) (nM : Nat) (oC : Nat) (oP : Nat) (oH : Nat) (oK : Nat) (oG : Nat) (oR : Nat) (oQ : Nat) (oW : Nat) (o4 : Nat) (o5 : Nat) (a51 : Nat) (a52 : Nat) (a53 : Nat) (nw : Nat) (w1 : Nat) (w2 : Nat) (w3 : Nat) (o7 : Nat) (o8 : Nat) (o9 : Nat) (w4 : Nat) (w5 : Nat) (w6 : Nat) (w7 : Nat) (fa : Int32) (l5 : Int32) (f51 : Nat → Int32) (f53 : Nat → Int32) (ke : Int32) (tl : Int32) (fsh : Int32) (wi : Int32) (ri : Int32) (fm : Int32) (lm : Int32) (cd : Int32) (g_ke : 0 ≤ ke.toInt ∧ ke.toInt ≤ 200) (g_fsh : 0 ≤ fsh.toInt ∧ fsh.toInt ≤ 1) (g_fm : -1 ≤ fm.toInt ∧ fm.toInt ≤ 800) (g_lm : -1 ≤ lm.toInt ∧ lm.toInt ≤ 800) (hcd : cd.toInt = 5) : kMi l yX11_blank wsX11_blank ({ frames := 2, cells := 0, slots := 0, locals := 43 } : Room) [.ref oX, .int cd] sz (dC, dI) vwCl [(cI, .int), (cS, .short)] [(oX, .inr (11, [.ref nT, .ref nL, .ref nM, .ref oC, .ref oP, .ref oH, .ref oK, .ref oG, .ref oR, .ref oQ, .ref oW, .int fa])), (oC, .inr (2, [.ref o4, .ref o5])), (o5, .inr (10, [.ref a51, .ref a52, .ref a53, .int l5])), (a51, .inl (cI, 256, .inl f51)), (a53, .inl (cI, 512, .inl f53)), (oW, .inr (1, [.ref oC, .ref oK, .ref nw, .ref w1, .ref w2, .ref w3, .ref o7, .ref o8, .ref o9, .ref w4, .ref w5, .ref w6, .ref w7, .int ke, .int tl, .int fsh, .int wi, .int ri, .int fm, .int lm]))] (fun _ => True) 0 0 (fun (A : Nat → Prop) (r : Int32) (hh9 : Heap) => ∃ (fsh' : Int32) (l5' : Int32) (f51' : Nat → Int32) (f53' : Nat → Int32), kPD (dC, dI) vwCl A [(oX, .inr (11, [.ref nT, .ref nL, .ref nM, .ref oC, .ref oP, .ref oH, .ref oK, .ref oG, .ref oR, .ref oQ, .ref oW, .int fa])), (oC, .inr (2, [.ref o4, .ref o5])), (o5, .inr (10, [.ref a51, .ref a52, .ref a53, .int l5'])), (a51, .inl (cI, 256, .inl f51')), (a53, .inl (cI, 512, .inl f53')), (oW, .inr (1, [.ref oC, .ref oK, .ref nw, .ref w1, .ref w2, .ref w3, .ref o7, .ref o8, .ref o9, .ref w4, .ref w5, .ref w6, .ref w7, .int ke, .int tl, .int fsh', .int wi, .int ri, .int fm, .int lm]))] hh9 ∧ (0 ≤ fsh'.toInt ∧ fsh'.toInt ≤ 1) ∧ (r = 1) ∧ (l5' = 0) ∧ (F_fill 256 f51' (-1)) ∧ (F_fill 512 f53' (-1)) ∧ (fsh' = 0)) := by
  refine kMi_of (cc := cX11_blank) (maxL := 3) (ret := (some .boolean)) (lv := [(0, .ref oX), (1, .int cd)]) (by decide +kernel) rfl rfl (Nat.le_of_ble_eq_true rfl) ?_
  intro p e s m below meth c A QQ ls hx hb hr hts hml hown hlocks hA hQQ hK hX hP hD hS hl
  have hown : s.vm.findClass RX11 = some m.cls := hown
  have hcf := k_cf hx hb hml hown hts
  have in_X11 : ∀ w ∈ wsX110, w ∈ wsX11_blank := fun _ h => List.mem_cons_of_mem _ (List.mem_append_left _ (List.mem_append_left _ (List.mem_append_left _ (List.mem_append_right _ (h)))))
  replace g_ke := hid g_ke
  replace g_fsh := hid g_fsh
  replace g_fm := hid g_fm
  replace g_lm := hid g_lm
  refine lv_aload_n hx hb dX11_blank_0 rfl (lv_at hl 0 rfl) ?_
  refine va_get (D := (dC, dI)) (ci := 11) (v := .ref oC) (C := RX11) (T := TX11) (N := 12) hx hb hts in_X11 hown hK hP 0 rfl rfl 3 (by decide) (hts (.fieldLink RX11 40 "TextMender" "codes" "LTextMender$Codes;") (List.mem_of_getElem? (i := 1) rfl)) (fun _ h9 => h9) rfl dX11_blank_1 ?_
  refine lv_iload_n hx hb dX11_blank_4 rfl (lv_at hl 1 rfl) ?_
  refine kV_r (rest := []) (q0 := 0) (ci := 2) hcf (m_X2_toldCode_5 l dC dI cI cS s.heap.size oC o4 o5 cd (by omega)) kc_X2_toldCode gX11_blank_X2_toldCode rfl rfl rfl ⟨Nat.le_of_ble_eq_true rfl, Nat.le_of_ble_eq_true rfl⟩ kX_t hK hP hD hS hA [1] [0, 2, 3, 4, 5] rfl (by decide +kernel) rfl rfl rfl hl rfl (Nat.le_of_ble_eq_true rfl) dX11_blank_5 ⟨Nat.le_of_ble_eq_true rfl, Nat.le_of_ble_eq_true rfl⟩ (fun r_1 H locs hB hJ hSn => ?_)
  obtain ⟨hra, ⟨hP1, hD1⟩⟩ := hB
  rw [hra]
  obtain ⟨hPn, hDn⟩ := hJ _ hP1 hD1 [(oX, .inr (11, [.ref nT, .ref nL, .ref nM, .ref oC, .ref oP, .ref oH, .ref oK, .ref oG, .ref oR, .ref oQ, .ref oW, .int fa])), (o5, .inr (10, [.ref a51, .ref a52, .ref a53, .int l5])), (a51, .inl (cI, 256, .inl f51)), (a53, .inl (cI, 512, .inl f53)), (oW, .inr (1, [.ref oC, .ref oK, .ref nw, .ref w1, .ref w2, .ref w3, .ref o7, .ref o8, .ref o9, .ref w4, .ref w5, .ref w6, .ref w7, .int ke, .int tl, .int fsh, .int wi, .int ri, .int fm, .int lm])), (oC, .inr (2, [.ref o4, .ref o5]))] rfl
  clear hP hD hS hJ hP1 hD1
  have hP := hPn
  have hD := hDn
  have hS := hSn
  clear hPn hDn hSn
  refine lv_astore_n (lv' := [(2, .ref o5), (0, .ref oX), (1, .int cd)]) hx hb dX11_blank_8 rfl hl (by decide) rfl (fun ls hl => ?_)
  refine lv_aload_n hx hb dX11_blank_9 rfl (lv_at hl 0 rfl) ?_
  refine lv_ifnonnull (tgt := 15) hx hb dX11_blank_10 (by decide) ?_
  refine lv_aload_n hx hb dX11_blank_15 rfl (lv_at hl 0 rfl) ?_
  refine kV_v (rest := []) (q0 := 0) (ci := 10) hcf (m_X10_empty l dC dI cI cS H.size o5 a51 a52 a53 l5 f51 f53 ) kc_X10_empty gX11_blank_X10_empty rfl rfl rfl ⟨Nat.le_of_ble_eq_true rfl, Nat.le_of_ble_eq_true rfl⟩ kX_t hK hP hD hS hA [1, 2, 3] [0, 4, 5] rfl (by decide +kernel) rfl rfl rfl hl rfl (Nat.le_of_ble_eq_true rfl) dX11_blank_16 ⟨Nat.le_of_ble_eq_true rfl, Nat.le_of_ble_eq_true rfl⟩ (fun H locs hB hJ hSn => ?_)
  obtain ⟨lt_2, ft1_2, ft3_2, ⟨hP1, hD1⟩, hf2_0, hf2_1, hf2_2⟩ := hB
  obtain ⟨hPn, hDn⟩ := hJ _ hP1 hD1 [(oX, .inr (11, [.ref nT, .ref nL, .ref nM, .ref oC, .ref oP, .ref oH, .ref oK, .ref oG, .ref oR, .ref oQ, .ref oW, .int fa])), (oW, .inr (1, [.ref oC, .ref oK, .ref nw, .ref w1, .ref w2, .ref w3, .ref o7, .ref o8, .ref o9, .ref w4, .ref w5, .ref w6, .ref w7, .int ke, .int tl, .int fsh, .int wi, .int ri, .int fm, .int lm])), (oC, .inr (2, [.ref o4, .ref o5])), (o5, .inr (10, [.ref a51, .ref a52, .ref a53, .int lt_2])), (a51, .inl (cI, 256, .inl ft1_2)), (a53, .inl (cI, 512, .inl ft3_2))] rfl
  clear hP hD hS hJ hP1 hD1
  have hP := hPn
  have hD := hDn
  have hS := hSn
  clear hPn hDn hSn
  refine lv_aload_n hx hb dX11_blank_19 rfl (lv_at hl 1 rfl) ?_
  refine va_get (D := (dC, dI)) (ci := 11) (v := .ref oW) (C := RX11) (T := TX11) (N := 12) hx hb hts in_X11 hown hK hP 0 rfl rfl 10 (by decide) (hts (.fieldLink RX11 86 "TextMender" "choiceBook" "LTextMender$Choices;") (List.mem_of_getElem? (i := 2) rfl)) (fun _ h9 => h9) rfl dX11_blank_20 ?_
  refine kV_v (rest := []) (q0 := 0) (ci := 1) hcf (f_X1_forgetFreshness l dC dI cI cS H.size oW oC oK nw w1 w2 w3 o7 o8 o9 w4 w5 w6 w7 ke tl fsh wi ri fm lm (g_ke) (g_fsh) (g_fm) (g_lm)) kc_X1_forgetFreshness gX11_blank_X1_forgetFreshness rfl rfl rfl ⟨Nat.le_of_ble_eq_true rfl, Nat.le_of_ble_eq_true rfl⟩ kX_t hK hP hD hS hA [1] [0, 2, 3, 4, 5] rfl (by decide +kernel) rfl rfl rfl hl rfl (Nat.le_of_ble_eq_true rfl) dX11_blank_23 ⟨Nat.le_of_ble_eq_true rfl, Nat.le_of_ble_eq_true rfl⟩ (fun H locs hB hJ hSn => ?_)
  obtain ⟨fsh_3, ⟨hP1, hD1⟩, hf3_0, hf3_1⟩ := hB
  obtain ⟨hPn, hDn⟩ := hJ _ hP1 hD1 [(oX, .inr (11, [.ref nT, .ref nL, .ref nM, .ref oC, .ref oP, .ref oH, .ref oK, .ref oG, .ref oR, .ref oQ, .ref oW, .int fa])), (oC, .inr (2, [.ref o4, .ref o5])), (o5, .inr (10, [.ref a51, .ref a52, .ref a53, .int lt_2])), (a51, .inl (cI, 256, .inl ft1_2)), (a53, .inl (cI, 512, .inl ft3_2)), (oW, .inr (1, [.ref oC, .ref oK, .ref nw, .ref w1, .ref w2, .ref w3, .ref o7, .ref o8, .ref o9, .ref w4, .ref w5, .ref w6, .ref w7, .int ke, .int tl, .int fsh_3, .int wi, .int ri, .int fm, .int lm]))] rfl
  clear hP hD hS hJ hP1 hD1
  have hP := hPn
  have hD := hDn
  have hS := hSn
  clear hPn hDn hSn
  refine lv_iconst (v := 1) hx hb dX11_blank_26 (by decide) ?_
  exact kl_z (v := 1) hQQ hx hb hr hlocks hS dX11_blank_27 (rfl) ⟨fsh_3, lt_2, ft1_2, ft3_2, ⟨hP, hD⟩, hf3_0, rfl, hf2_0, hf2_1, hf2_2, hf3_1⟩

end

/-! 59.a.rows -/
section
set_option maxRecDepth 100000 in
theorem dA237_cX12_span : kDec cX12_span [(0, .aload_n 0, 1), (1, .iconst 0, 1), (2, .putfield 85, 3), (5, .aload_n 0, 1), (6, .iconst (-1), 1), (7, .putfield 55, 3), (10, .iload_n 1, 1), (11, .iconst 4, 1), (12, .if_icmp .lt 59, 3), (71, .iconst (-1), 1), (72, .ireturn, 1), (15, .iload_n 1, 1), (16, .iconst 5, 1), (17, .if_icmp .gt 54, 3), (20, .iload_n 2, 1), (21, .ifCond .lt 50, 3), (24, .iload_n 2, 1), (25, .sipush 255, 3), (28, .if_icmp .gt 43, 3), (31, .iload_n 3, 1), (32, .iconst 1, 1), (33, .if_icmp .lt 38, 3), (36, .iload_n 3, 1), (37, .sipush 256, 3)] = true := by decide +kernel
theorem dX12_span_0 : decode cX12_span 0 = .ok (.aload_n 0, 1) := kDec_at dA237_cX12_span 0 rfl
theorem dX12_span_1 : decode cX12_span 1 = .ok (.iconst 0, 1) := kDec_at dA237_cX12_span 1 rfl
theorem dX12_span_2 : decode cX12_span 2 = .ok (.putfield 85, 3) := kDec_at dA237_cX12_span 2 rfl
theorem dX12_span_5 : decode cX12_span 5 = .ok (.aload_n 0, 1) := kDec_at dA237_cX12_span 3 rfl
theorem dX12_span_6 : decode cX12_span 6 = .ok (.iconst (-1), 1) := kDec_at dA237_cX12_span 4 rfl
theorem dX12_span_7 : decode cX12_span 7 = .ok (.putfield 55, 3) := kDec_at dA237_cX12_span 5 rfl
theorem dX12_span_10 : decode cX12_span 10 = .ok (.iload_n 1, 1) := kDec_at dA237_cX12_span 6 rfl
theorem dX12_span_11 : decode cX12_span 11 = .ok (.iconst 4, 1) := kDec_at dA237_cX12_span 7 rfl
theorem dX12_span_12 : decode cX12_span 12 = .ok (.if_icmp .lt 59, 3) := kDec_at dA237_cX12_span 8 rfl
theorem dX12_span_71 : decode cX12_span 71 = .ok (.iconst (-1), 1) := kDec_at dA237_cX12_span 9 rfl
theorem dX12_span_72 : decode cX12_span 72 = .ok (.ireturn, 1) := kDec_at dA237_cX12_span 10 rfl
theorem dX12_span_15 : decode cX12_span 15 = .ok (.iload_n 1, 1) := kDec_at dA237_cX12_span 11 rfl
theorem dX12_span_16 : decode cX12_span 16 = .ok (.iconst 5, 1) := kDec_at dA237_cX12_span 12 rfl
theorem dX12_span_17 : decode cX12_span 17 = .ok (.if_icmp .gt 54, 3) := kDec_at dA237_cX12_span 13 rfl
theorem dX12_span_20 : decode cX12_span 20 = .ok (.iload_n 2, 1) := kDec_at dA237_cX12_span 14 rfl
theorem dX12_span_21 : decode cX12_span 21 = .ok (.ifCond .lt 50, 3) := kDec_at dA237_cX12_span 15 rfl
theorem dX12_span_24 : decode cX12_span 24 = .ok (.iload_n 2, 1) := kDec_at dA237_cX12_span 16 rfl
theorem dX12_span_25 : decode cX12_span 25 = .ok (.sipush 255, 3) := kDec_at dA237_cX12_span 17 rfl
theorem dX12_span_28 : decode cX12_span 28 = .ok (.if_icmp .gt 43, 3) := kDec_at dA237_cX12_span 18 rfl
theorem dX12_span_31 : decode cX12_span 31 = .ok (.iload_n 3, 1) := kDec_at dA237_cX12_span 19 rfl
theorem dX12_span_32 : decode cX12_span 32 = .ok (.iconst 1, 1) := kDec_at dA237_cX12_span 20 rfl
theorem dX12_span_33 : decode cX12_span 33 = .ok (.if_icmp .lt 38, 3) := kDec_at dA237_cX12_span 21 rfl
theorem dX12_span_36 : decode cX12_span 36 = .ok (.iload_n 3, 1) := kDec_at dA237_cX12_span 22 rfl
theorem dX12_span_37 : decode cX12_span 37 = .ok (.sipush 256, 3) := kDec_at dA237_cX12_span 23 rfl
set_option maxRecDepth 100000 in
theorem dA238_cX12_span : kDec cX12_span [(40, .iload_n 2, 1), (41, .isub, 1), (42, .if_icmp .gt 29, 3), (45, .iload 5, 2), (47, .sipush (-255), 3), (50, .if_icmp .lt 21, 3), (53, .iload 5, 2), (55, .sipush 255, 3), (58, .if_icmp .gt 13, 3), (61, .iload_n 3, 1), (62, .iconst 1, 1), (63, .if_icmp .le 10, 3), (73, .iload_n 1, 1), (74, .iconst 4, 1), (75, .isub, 1), (76, .istore 6, 2), (78, .iload 4, 2), (80, .invokestatic 116, 3), (83, .ifCond .ne 5, 3), (88, .iconst 0, 1), (89, .istore 7, 2), (91, .iload 7, 2), (93, .iload_n 3, 1), (94, .if_icmp .ge 66, 3)] = true := by decide +kernel
theorem dX12_span_40 : decode cX12_span 40 = .ok (.iload_n 2, 1) := kDec_at dA238_cX12_span 0 rfl
theorem dX12_span_41 : decode cX12_span 41 = .ok (.isub, 1) := kDec_at dA238_cX12_span 1 rfl
theorem dX12_span_42 : decode cX12_span 42 = .ok (.if_icmp .gt 29, 3) := kDec_at dA238_cX12_span 2 rfl
theorem dX12_span_45 : decode cX12_span 45 = .ok (.iload 5, 2) := kDec_at dA238_cX12_span 3 rfl
theorem dX12_span_47 : decode cX12_span 47 = .ok (.sipush (-255), 3) := kDec_at dA238_cX12_span 4 rfl
theorem dX12_span_50 : decode cX12_span 50 = .ok (.if_icmp .lt 21, 3) := kDec_at dA238_cX12_span 5 rfl
theorem dX12_span_53 : decode cX12_span 53 = .ok (.iload 5, 2) := kDec_at dA238_cX12_span 6 rfl
theorem dX12_span_55 : decode cX12_span 55 = .ok (.sipush 255, 3) := kDec_at dA238_cX12_span 7 rfl
theorem dX12_span_58 : decode cX12_span 58 = .ok (.if_icmp .gt 13, 3) := kDec_at dA238_cX12_span 8 rfl
theorem dX12_span_61 : decode cX12_span 61 = .ok (.iload_n 3, 1) := kDec_at dA238_cX12_span 9 rfl
theorem dX12_span_62 : decode cX12_span 62 = .ok (.iconst 1, 1) := kDec_at dA238_cX12_span 10 rfl
theorem dX12_span_63 : decode cX12_span 63 = .ok (.if_icmp .le 10, 3) := kDec_at dA238_cX12_span 11 rfl
theorem dX12_span_73 : decode cX12_span 73 = .ok (.iload_n 1, 1) := kDec_at dA238_cX12_span 12 rfl
theorem dX12_span_74 : decode cX12_span 74 = .ok (.iconst 4, 1) := kDec_at dA238_cX12_span 13 rfl
theorem dX12_span_75 : decode cX12_span 75 = .ok (.isub, 1) := kDec_at dA238_cX12_span 14 rfl
theorem dX12_span_76 : decode cX12_span 76 = .ok (.istore 6, 2) := kDec_at dA238_cX12_span 15 rfl
theorem dX12_span_78 : decode cX12_span 78 = .ok (.iload 4, 2) := kDec_at dA238_cX12_span 16 rfl
theorem dX12_span_80 : decode cX12_span 80 = .ok (.invokestatic 116, 3) := kDec_at dA238_cX12_span 17 rfl
theorem dX12_span_83 : decode cX12_span 83 = .ok (.ifCond .ne 5, 3) := kDec_at dA238_cX12_span 18 rfl
theorem dX12_span_88 : decode cX12_span 88 = .ok (.iconst 0, 1) := kDec_at dA238_cX12_span 19 rfl
theorem dX12_span_89 : decode cX12_span 89 = .ok (.istore 7, 2) := kDec_at dA238_cX12_span 20 rfl
theorem dX12_span_91 : decode cX12_span 91 = .ok (.iload 7, 2) := kDec_at dA238_cX12_span 21 rfl
theorem dX12_span_93 : decode cX12_span 93 = .ok (.iload_n 3, 1) := kDec_at dA238_cX12_span 22 rfl
theorem dX12_span_94 : decode cX12_span 94 = .ok (.if_icmp .ge 66, 3) := kDec_at dA238_cX12_span 23 rfl
set_option maxRecDepth 20000 in
theorem ggX12_span_X12_isLetter : GoodIn wsX12_span wsX12_isLetter := goodIn_r _ [11, 5, 12, 13] rfl (by decide +kernel)
set_option maxRecDepth 20000 in
theorem gX12_span_X12_isLetter : GoodIn wsX12_span (va_wsS RX12 116 yX12_isLetter wsX12_isLetter) := goodIn_app (goodIn_r _ [8, 9, 10] rfl (by decide +kernel)) ggX12_span_X12_isLetter
set_option maxRecDepth 100000 in
theorem dA239_cX12_span : kDec cX12_span [(160, .iconst 0, 1), (161, .istore 7, 2), (163, .iload 7, 2), (165, .iload_n 3, 1), (166, .if_icmp .ge 57, 3), (223, .aload_n 0, 1), (224, .getfield 27, 3), (227, .iload 6, 2), (229, .dup2, 1), (230, .iaload, 1), (231, .iload_n 3, 1), (232, .iadd, 1), (233, .iastore, 1), (234, .aload_n 0, 1), (235, .dup, 1), (236, .getfield 148, 3), (239, .iconst 1, 1), (240, .iadd, 1), (241, .putfield 148, 3), (244, .aload_n 0, 1), (245, .getfield 27, 3), (248, .iload 6, 2), (250, .iaload, 1), (251, .ireturn, 1)] = true := by decide +kernel
theorem dX12_span_160 : decode cX12_span 160 = .ok (.iconst 0, 1) := kDec_at dA239_cX12_span 0 rfl
theorem dX12_span_161 : decode cX12_span 161 = .ok (.istore 7, 2) := kDec_at dA239_cX12_span 1 rfl
theorem dX12_span_163 : decode cX12_span 163 = .ok (.iload 7, 2) := kDec_at dA239_cX12_span 2 rfl
theorem dX12_span_165 : decode cX12_span 165 = .ok (.iload_n 3, 1) := kDec_at dA239_cX12_span 3 rfl
theorem dX12_span_166 : decode cX12_span 166 = .ok (.if_icmp .ge 57, 3) := kDec_at dA239_cX12_span 4 rfl
theorem dX12_span_223 : decode cX12_span 223 = .ok (.aload_n 0, 1) := kDec_at dA239_cX12_span 5 rfl
theorem dX12_span_224 : decode cX12_span 224 = .ok (.getfield 27, 3) := kDec_at dA239_cX12_span 6 rfl
theorem dX12_span_227 : decode cX12_span 227 = .ok (.iload 6, 2) := kDec_at dA239_cX12_span 7 rfl
theorem dX12_span_229 : decode cX12_span 229 = .ok (.dup2, 1) := kDec_at dA239_cX12_span 8 rfl
theorem dX12_span_230 : decode cX12_span 230 = .ok (.iaload, 1) := kDec_at dA239_cX12_span 9 rfl
theorem dX12_span_231 : decode cX12_span 231 = .ok (.iload_n 3, 1) := kDec_at dA239_cX12_span 10 rfl
theorem dX12_span_232 : decode cX12_span 232 = .ok (.iadd, 1) := kDec_at dA239_cX12_span 11 rfl
theorem dX12_span_233 : decode cX12_span 233 = .ok (.iastore, 1) := kDec_at dA239_cX12_span 12 rfl
theorem dX12_span_234 : decode cX12_span 234 = .ok (.aload_n 0, 1) := kDec_at dA239_cX12_span 13 rfl
theorem dX12_span_235 : decode cX12_span 235 = .ok (.dup, 1) := kDec_at dA239_cX12_span 14 rfl
theorem dX12_span_236 : decode cX12_span 236 = .ok (.getfield 148, 3) := kDec_at dA239_cX12_span 15 rfl
theorem dX12_span_239 : decode cX12_span 239 = .ok (.iconst 1, 1) := kDec_at dA239_cX12_span 16 rfl
theorem dX12_span_240 : decode cX12_span 240 = .ok (.iadd, 1) := kDec_at dA239_cX12_span 17 rfl
theorem dX12_span_241 : decode cX12_span 241 = .ok (.putfield 148, 3) := kDec_at dA239_cX12_span 18 rfl
theorem dX12_span_244 : decode cX12_span 244 = .ok (.aload_n 0, 1) := kDec_at dA239_cX12_span 19 rfl
theorem dX12_span_245 : decode cX12_span 245 = .ok (.getfield 27, 3) := kDec_at dA239_cX12_span 20 rfl
theorem dX12_span_248 : decode cX12_span 248 = .ok (.iload 6, 2) := kDec_at dA239_cX12_span 21 rfl
theorem dX12_span_250 : decode cX12_span 250 = .ok (.iaload, 1) := kDec_at dA239_cX12_span 22 rfl
theorem dX12_span_251 : decode cX12_span 251 = .ok (.ireturn, 1) := kDec_at dA239_cX12_span 23 rfl
set_option maxRecDepth 100000 in
theorem dA240_cX12_span : kDec cX12_span [(169, .aload_n 0, 1), (170, .getfield 19, 3), (173, .sipush 256, 3), (176, .iload 6, 2), (178, .imul, 1), (179, .iload_n 2, 1), (180, .iadd, 1), (181, .iload 7, 2), (183, .iadd, 1), (184, .iload 4, 2), (186, .iload 7, 2), (188, .iload 5, 2), (190, .imul, 1), (191, .iadd, 1), (192, .iastore, 1), (193, .aload_n 0, 1), (194, .getfield 23, 3), (197, .ldc 88, 2), (199, .iload 6, 2), (201, .imul, 1), (202, .iload 4, 2), (204, .iadd, 1), (205, .iload 7, 2), (207, .iload 5, 2)] = true := by decide +kernel
theorem dX12_span_169 : decode cX12_span 169 = .ok (.aload_n 0, 1) := kDec_at dA240_cX12_span 0 rfl
theorem dX12_span_170 : decode cX12_span 170 = .ok (.getfield 19, 3) := kDec_at dA240_cX12_span 1 rfl
theorem dX12_span_173 : decode cX12_span 173 = .ok (.sipush 256, 3) := kDec_at dA240_cX12_span 2 rfl
theorem dX12_span_176 : decode cX12_span 176 = .ok (.iload 6, 2) := kDec_at dA240_cX12_span 3 rfl
theorem dX12_span_178 : decode cX12_span 178 = .ok (.imul, 1) := kDec_at dA240_cX12_span 4 rfl
theorem dX12_span_179 : decode cX12_span 179 = .ok (.iload_n 2, 1) := kDec_at dA240_cX12_span 5 rfl
theorem dX12_span_180 : decode cX12_span 180 = .ok (.iadd, 1) := kDec_at dA240_cX12_span 6 rfl
theorem dX12_span_181 : decode cX12_span 181 = .ok (.iload 7, 2) := kDec_at dA240_cX12_span 7 rfl
theorem dX12_span_183 : decode cX12_span 183 = .ok (.iadd, 1) := kDec_at dA240_cX12_span 8 rfl
theorem dX12_span_184 : decode cX12_span 184 = .ok (.iload 4, 2) := kDec_at dA240_cX12_span 9 rfl
theorem dX12_span_186 : decode cX12_span 186 = .ok (.iload 7, 2) := kDec_at dA240_cX12_span 10 rfl
theorem dX12_span_188 : decode cX12_span 188 = .ok (.iload 5, 2) := kDec_at dA240_cX12_span 11 rfl
theorem dX12_span_190 : decode cX12_span 190 = .ok (.imul, 1) := kDec_at dA240_cX12_span 12 rfl
theorem dX12_span_191 : decode cX12_span 191 = .ok (.iadd, 1) := kDec_at dA240_cX12_span 13 rfl
theorem dX12_span_192 : decode cX12_span 192 = .ok (.iastore, 1) := kDec_at dA240_cX12_span 14 rfl
theorem dX12_span_193 : decode cX12_span 193 = .ok (.aload_n 0, 1) := kDec_at dA240_cX12_span 15 rfl
theorem dX12_span_194 : decode cX12_span 194 = .ok (.getfield 23, 3) := kDec_at dA240_cX12_span 16 rfl
theorem dX12_span_197 : decode cX12_span 197 = .ok (.ldc 88, 2) := kDec_at dA240_cX12_span 17 rfl
theorem dX12_span_199 : decode cX12_span 199 = .ok (.iload 6, 2) := kDec_at dA240_cX12_span 18 rfl
theorem dX12_span_201 : decode cX12_span 201 = .ok (.imul, 1) := kDec_at dA240_cX12_span 19 rfl
theorem dX12_span_202 : decode cX12_span 202 = .ok (.iload 4, 2) := kDec_at dA240_cX12_span 20 rfl
theorem dX12_span_204 : decode cX12_span 204 = .ok (.iadd, 1) := kDec_at dA240_cX12_span 21 rfl
theorem dX12_span_205 : decode cX12_span 205 = .ok (.iload 7, 2) := kDec_at dA240_cX12_span 22 rfl
theorem dX12_span_207 : decode cX12_span 207 = .ok (.iload 5, 2) := kDec_at dA240_cX12_span 23 rfl
set_option maxRecDepth 100000 in
theorem dA241_cX12_span : kDec cX12_span [(209, .imul, 1), (210, .iadd, 1), (211, .iload_n 2, 1), (212, .iload 7, 2), (214, .iadd, 1), (215, .i2s, 1), (216, .sastore, 1), (217, .iinc 7 1, 3), (220, .goto (-57), 3), (97, .iload 4, 2), (99, .iload 7, 2), (101, .iload 5, 2), (103, .imul, 1), (104, .iadd, 1), (105, .istore 8, 2), (107, .iload 8, 2), (109, .invokestatic 116, 3), (112, .ifCond .eq 40, 3), (152, .iconst (-1), 1), (153, .ireturn, 1), (115, .aload_n 0, 1), (116, .getfield 19, 3), (119, .sipush 256, 3), (122, .iload 6, 2)] = true := by decide +kernel
theorem dX12_span_209 : decode cX12_span 209 = .ok (.imul, 1) := kDec_at dA241_cX12_span 0 rfl
theorem dX12_span_210 : decode cX12_span 210 = .ok (.iadd, 1) := kDec_at dA241_cX12_span 1 rfl
theorem dX12_span_211 : decode cX12_span 211 = .ok (.iload_n 2, 1) := kDec_at dA241_cX12_span 2 rfl
theorem dX12_span_212 : decode cX12_span 212 = .ok (.iload 7, 2) := kDec_at dA241_cX12_span 3 rfl
theorem dX12_span_214 : decode cX12_span 214 = .ok (.iadd, 1) := kDec_at dA241_cX12_span 4 rfl
theorem dX12_span_215 : decode cX12_span 215 = .ok (.i2s, 1) := kDec_at dA241_cX12_span 5 rfl
theorem dX12_span_216 : decode cX12_span 216 = .ok (.sastore, 1) := kDec_at dA241_cX12_span 6 rfl
theorem dX12_span_217 : decode cX12_span 217 = .ok (.iinc 7 1, 3) := kDec_at dA241_cX12_span 7 rfl
theorem dX12_span_220 : decode cX12_span 220 = .ok (.goto (-57), 3) := kDec_at dA241_cX12_span 8 rfl
theorem dX12_span_97 : decode cX12_span 97 = .ok (.iload 4, 2) := kDec_at dA241_cX12_span 9 rfl
theorem dX12_span_99 : decode cX12_span 99 = .ok (.iload 7, 2) := kDec_at dA241_cX12_span 10 rfl
theorem dX12_span_101 : decode cX12_span 101 = .ok (.iload 5, 2) := kDec_at dA241_cX12_span 11 rfl
theorem dX12_span_103 : decode cX12_span 103 = .ok (.imul, 1) := kDec_at dA241_cX12_span 12 rfl
theorem dX12_span_104 : decode cX12_span 104 = .ok (.iadd, 1) := kDec_at dA241_cX12_span 13 rfl
theorem dX12_span_105 : decode cX12_span 105 = .ok (.istore 8, 2) := kDec_at dA241_cX12_span 14 rfl
theorem dX12_span_107 : decode cX12_span 107 = .ok (.iload 8, 2) := kDec_at dA241_cX12_span 15 rfl
theorem dX12_span_109 : decode cX12_span 109 = .ok (.invokestatic 116, 3) := kDec_at dA241_cX12_span 16 rfl
theorem dX12_span_112 : decode cX12_span 112 = .ok (.ifCond .eq 40, 3) := kDec_at dA241_cX12_span 17 rfl
theorem dX12_span_152 : decode cX12_span 152 = .ok (.iconst (-1), 1) := kDec_at dA241_cX12_span 18 rfl
theorem dX12_span_153 : decode cX12_span 153 = .ok (.ireturn, 1) := kDec_at dA241_cX12_span 19 rfl
theorem dX12_span_115 : decode cX12_span 115 = .ok (.aload_n 0, 1) := kDec_at dA241_cX12_span 20 rfl
theorem dX12_span_116 : decode cX12_span 116 = .ok (.getfield 19, 3) := kDec_at dA241_cX12_span 21 rfl
theorem dX12_span_119 : decode cX12_span 119 = .ok (.sipush 256, 3) := kDec_at dA241_cX12_span 22 rfl
theorem dX12_span_122 : decode cX12_span 122 = .ok (.iload 6, 2) := kDec_at dA241_cX12_span 23 rfl
set_option maxRecDepth 100000 in
theorem dA242_cX12_span : kDec cX12_span [(124, .imul, 1), (125, .iload_n 2, 1), (126, .iadd, 1), (127, .iload 7, 2), (129, .iadd, 1), (130, .iaload, 1), (131, .iconst (-1), 1), (132, .if_icmp .ne 20, 3), (135, .aload_n 0, 1), (136, .getfield 23, 3), (139, .ldc 88, 2), (141, .iload 6, 2), (143, .imul, 1), (144, .iload 8, 2), (146, .iadd, 1), (147, .saload, 1), (148, .iconst (-1), 1), (149, .if_icmp .eq 5, 3), (154, .iinc 7 1, 3), (157, .goto (-66), 3), (86, .iconst (-1), 1), (87, .ireturn, 1), (66, .iload 5, 2), (68, .ifCond .ne 5, 3)] = true := by decide +kernel
theorem dX12_span_124 : decode cX12_span 124 = .ok (.imul, 1) := kDec_at dA242_cX12_span 0 rfl
theorem dX12_span_125 : decode cX12_span 125 = .ok (.iload_n 2, 1) := kDec_at dA242_cX12_span 1 rfl
theorem dX12_span_126 : decode cX12_span 126 = .ok (.iadd, 1) := kDec_at dA242_cX12_span 2 rfl
theorem dX12_span_127 : decode cX12_span 127 = .ok (.iload 7, 2) := kDec_at dA242_cX12_span 3 rfl
theorem dX12_span_129 : decode cX12_span 129 = .ok (.iadd, 1) := kDec_at dA242_cX12_span 4 rfl
theorem dX12_span_130 : decode cX12_span 130 = .ok (.iaload, 1) := kDec_at dA242_cX12_span 5 rfl
theorem dX12_span_131 : decode cX12_span 131 = .ok (.iconst (-1), 1) := kDec_at dA242_cX12_span 6 rfl
theorem dX12_span_132 : decode cX12_span 132 = .ok (.if_icmp .ne 20, 3) := kDec_at dA242_cX12_span 7 rfl
theorem dX12_span_135 : decode cX12_span 135 = .ok (.aload_n 0, 1) := kDec_at dA242_cX12_span 8 rfl
theorem dX12_span_136 : decode cX12_span 136 = .ok (.getfield 23, 3) := kDec_at dA242_cX12_span 9 rfl
theorem dX12_span_139 : decode cX12_span 139 = .ok (.ldc 88, 2) := kDec_at dA242_cX12_span 10 rfl
theorem dX12_span_141 : decode cX12_span 141 = .ok (.iload 6, 2) := kDec_at dA242_cX12_span 11 rfl
theorem dX12_span_143 : decode cX12_span 143 = .ok (.imul, 1) := kDec_at dA242_cX12_span 12 rfl
theorem dX12_span_144 : decode cX12_span 144 = .ok (.iload 8, 2) := kDec_at dA242_cX12_span 13 rfl
theorem dX12_span_146 : decode cX12_span 146 = .ok (.iadd, 1) := kDec_at dA242_cX12_span 14 rfl
theorem dX12_span_147 : decode cX12_span 147 = .ok (.saload, 1) := kDec_at dA242_cX12_span 15 rfl
theorem dX12_span_148 : decode cX12_span 148 = .ok (.iconst (-1), 1) := kDec_at dA242_cX12_span 16 rfl
theorem dX12_span_149 : decode cX12_span 149 = .ok (.if_icmp .eq 5, 3) := kDec_at dA242_cX12_span 17 rfl
theorem dX12_span_154 : decode cX12_span 154 = .ok (.iinc 7 1, 3) := kDec_at dA242_cX12_span 18 rfl
theorem dX12_span_157 : decode cX12_span 157 = .ok (.goto (-66), 3) := kDec_at dA242_cX12_span 19 rfl
theorem dX12_span_86 : decode cX12_span 86 = .ok (.iconst (-1), 1) := kDec_at dA242_cX12_span 20 rfl
theorem dX12_span_87 : decode cX12_span 87 = .ok (.ireturn, 1) := kDec_at dA242_cX12_span 21 rfl
theorem dX12_span_66 : decode cX12_span 66 = .ok (.iload 5, 2) := kDec_at dA242_cX12_span 22 rfl
theorem dX12_span_68 : decode cX12_span 68 = .ok (.ifCond .ne 5, 3) := kDec_at dA242_cX12_span 23 rfl
set_option maxRecDepth 100000 in
theorem dA243_cX12_blank : kDec cX12_blank [(0, .aload_n 0, 1), (1, .iconst 0, 1), (2, .putfield 85, 3), (5, .iload_n 1, 1), (6, .iconst 4, 1), (7, .if_icmp .lt 8, 3), (15, .iconst 0, 1), (16, .ireturn, 1), (10, .iload_n 1, 1), (11, .iconst 5, 1), (12, .if_icmp .le 5, 3), (17, .iload_n 1, 1), (18, .iconst 4, 1), (19, .isub, 1), (20, .istore_n 2, 1), (21, .iconst 0, 1), (22, .istore_n 3, 1), (23, .iload_n 3, 1), (24, .sipush 256, 3), (27, .if_icmp .ge 22, 3), (49, .iconst 0, 1), (50, .istore_n 3, 1), (51, .iload_n 3, 1), (52, .ldc 88, 2)] = true := by decide +kernel
theorem dX12_blank_0 : decode cX12_blank 0 = .ok (.aload_n 0, 1) := kDec_at dA243_cX12_blank 0 rfl
theorem dX12_blank_1 : decode cX12_blank 1 = .ok (.iconst 0, 1) := kDec_at dA243_cX12_blank 1 rfl
theorem dX12_blank_2 : decode cX12_blank 2 = .ok (.putfield 85, 3) := kDec_at dA243_cX12_blank 2 rfl
theorem dX12_blank_5 : decode cX12_blank 5 = .ok (.iload_n 1, 1) := kDec_at dA243_cX12_blank 3 rfl
theorem dX12_blank_6 : decode cX12_blank 6 = .ok (.iconst 4, 1) := kDec_at dA243_cX12_blank 4 rfl
theorem dX12_blank_7 : decode cX12_blank 7 = .ok (.if_icmp .lt 8, 3) := kDec_at dA243_cX12_blank 5 rfl
theorem dX12_blank_15 : decode cX12_blank 15 = .ok (.iconst 0, 1) := kDec_at dA243_cX12_blank 6 rfl
theorem dX12_blank_16 : decode cX12_blank 16 = .ok (.ireturn, 1) := kDec_at dA243_cX12_blank 7 rfl
theorem dX12_blank_10 : decode cX12_blank 10 = .ok (.iload_n 1, 1) := kDec_at dA243_cX12_blank 8 rfl
theorem dX12_blank_11 : decode cX12_blank 11 = .ok (.iconst 5, 1) := kDec_at dA243_cX12_blank 9 rfl
theorem dX12_blank_12 : decode cX12_blank 12 = .ok (.if_icmp .le 5, 3) := kDec_at dA243_cX12_blank 10 rfl
theorem dX12_blank_17 : decode cX12_blank 17 = .ok (.iload_n 1, 1) := kDec_at dA243_cX12_blank 11 rfl
theorem dX12_blank_18 : decode cX12_blank 18 = .ok (.iconst 4, 1) := kDec_at dA243_cX12_blank 12 rfl
theorem dX12_blank_19 : decode cX12_blank 19 = .ok (.isub, 1) := kDec_at dA243_cX12_blank 13 rfl
theorem dX12_blank_20 : decode cX12_blank 20 = .ok (.istore_n 2, 1) := kDec_at dA243_cX12_blank 14 rfl
theorem dX12_blank_21 : decode cX12_blank 21 = .ok (.iconst 0, 1) := kDec_at dA243_cX12_blank 15 rfl
theorem dX12_blank_22 : decode cX12_blank 22 = .ok (.istore_n 3, 1) := kDec_at dA243_cX12_blank 16 rfl
theorem dX12_blank_23 : decode cX12_blank 23 = .ok (.iload_n 3, 1) := kDec_at dA243_cX12_blank 17 rfl
theorem dX12_blank_24 : decode cX12_blank 24 = .ok (.sipush 256, 3) := kDec_at dA243_cX12_blank 18 rfl
theorem dX12_blank_27 : decode cX12_blank 27 = .ok (.if_icmp .ge 22, 3) := kDec_at dA243_cX12_blank 19 rfl
theorem dX12_blank_49 : decode cX12_blank 49 = .ok (.iconst 0, 1) := kDec_at dA243_cX12_blank 20 rfl
theorem dX12_blank_50 : decode cX12_blank 50 = .ok (.istore_n 3, 1) := kDec_at dA243_cX12_blank 21 rfl
theorem dX12_blank_51 : decode cX12_blank 51 = .ok (.iload_n 3, 1) := kDec_at dA243_cX12_blank 22 rfl
theorem dX12_blank_52 : decode cX12_blank 52 = .ok (.ldc 88, 2) := kDec_at dA243_cX12_blank 23 rfl
set_option maxRecDepth 100000 in
theorem dA244_cX12_blank : kDec cX12_blank [(54, .if_icmp .ge 21, 3), (75, .aload_n 0, 1), (76, .getfield 27, 3), (79, .iload_n 2, 1), (80, .iconst 0, 1), (81, .iastore, 1), (82, .aload_n 0, 1), (83, .dup, 1), (84, .getfield 148, 3), (87, .iconst 1, 1), (88, .iadd, 1), (89, .putfield 148, 3), (92, .iconst 1, 1), (93, .ireturn, 1), (57, .aload_n 0, 1), (58, .getfield 23, 3), (61, .ldc 88, 2), (63, .iload_n 2, 1), (64, .imul, 1), (65, .iload_n 3, 1), (66, .iadd, 1), (67, .iconst (-1), 1), (68, .sastore, 1), (69, .iinc 3 1, 3)] = true := by decide +kernel
theorem dX12_blank_54 : decode cX12_blank 54 = .ok (.if_icmp .ge 21, 3) := kDec_at dA244_cX12_blank 0 rfl
theorem dX12_blank_75 : decode cX12_blank 75 = .ok (.aload_n 0, 1) := kDec_at dA244_cX12_blank 1 rfl
theorem dX12_blank_76 : decode cX12_blank 76 = .ok (.getfield 27, 3) := kDec_at dA244_cX12_blank 2 rfl
theorem dX12_blank_79 : decode cX12_blank 79 = .ok (.iload_n 2, 1) := kDec_at dA244_cX12_blank 3 rfl
theorem dX12_blank_80 : decode cX12_blank 80 = .ok (.iconst 0, 1) := kDec_at dA244_cX12_blank 4 rfl
theorem dX12_blank_81 : decode cX12_blank 81 = .ok (.iastore, 1) := kDec_at dA244_cX12_blank 5 rfl
theorem dX12_blank_82 : decode cX12_blank 82 = .ok (.aload_n 0, 1) := kDec_at dA244_cX12_blank 6 rfl
theorem dX12_blank_83 : decode cX12_blank 83 = .ok (.dup, 1) := kDec_at dA244_cX12_blank 7 rfl
theorem dX12_blank_84 : decode cX12_blank 84 = .ok (.getfield 148, 3) := kDec_at dA244_cX12_blank 8 rfl
theorem dX12_blank_87 : decode cX12_blank 87 = .ok (.iconst 1, 1) := kDec_at dA244_cX12_blank 9 rfl
theorem dX12_blank_88 : decode cX12_blank 88 = .ok (.iadd, 1) := kDec_at dA244_cX12_blank 10 rfl
theorem dX12_blank_89 : decode cX12_blank 89 = .ok (.putfield 148, 3) := kDec_at dA244_cX12_blank 11 rfl
theorem dX12_blank_92 : decode cX12_blank 92 = .ok (.iconst 1, 1) := kDec_at dA244_cX12_blank 12 rfl
theorem dX12_blank_93 : decode cX12_blank 93 = .ok (.ireturn, 1) := kDec_at dA244_cX12_blank 13 rfl
theorem dX12_blank_57 : decode cX12_blank 57 = .ok (.aload_n 0, 1) := kDec_at dA244_cX12_blank 14 rfl
theorem dX12_blank_58 : decode cX12_blank 58 = .ok (.getfield 23, 3) := kDec_at dA244_cX12_blank 15 rfl
theorem dX12_blank_61 : decode cX12_blank 61 = .ok (.ldc 88, 2) := kDec_at dA244_cX12_blank 16 rfl
theorem dX12_blank_63 : decode cX12_blank 63 = .ok (.iload_n 2, 1) := kDec_at dA244_cX12_blank 17 rfl
theorem dX12_blank_64 : decode cX12_blank 64 = .ok (.imul, 1) := kDec_at dA244_cX12_blank 18 rfl
theorem dX12_blank_65 : decode cX12_blank 65 = .ok (.iload_n 3, 1) := kDec_at dA244_cX12_blank 19 rfl
theorem dX12_blank_66 : decode cX12_blank 66 = .ok (.iadd, 1) := kDec_at dA244_cX12_blank 20 rfl
theorem dX12_blank_67 : decode cX12_blank 67 = .ok (.iconst (-1), 1) := kDec_at dA244_cX12_blank 21 rfl
theorem dX12_blank_68 : decode cX12_blank 68 = .ok (.sastore, 1) := kDec_at dA244_cX12_blank 22 rfl
theorem dX12_blank_69 : decode cX12_blank 69 = .ok (.iinc 3 1, 3) := kDec_at dA244_cX12_blank 23 rfl
set_option maxRecDepth 100000 in
theorem dA245_cX12_blank : kDec cX12_blank [(72, .goto (-21), 3), (30, .aload_n 0, 1), (31, .getfield 19, 3), (34, .sipush 256, 3), (37, .iload_n 2, 1), (38, .imul, 1), (39, .iload_n 3, 1), (40, .iadd, 1), (41, .iconst (-1), 1), (42, .iastore, 1), (43, .iinc 3 1, 3), (46, .goto (-23), 3)] = true := by decide +kernel
theorem dX12_blank_72 : decode cX12_blank 72 = .ok (.goto (-21), 3) := kDec_at dA245_cX12_blank 0 rfl
theorem dX12_blank_30 : decode cX12_blank 30 = .ok (.aload_n 0, 1) := kDec_at dA245_cX12_blank 1 rfl
theorem dX12_blank_31 : decode cX12_blank 31 = .ok (.getfield 19, 3) := kDec_at dA245_cX12_blank 2 rfl
theorem dX12_blank_34 : decode cX12_blank 34 = .ok (.sipush 256, 3) := kDec_at dA245_cX12_blank 3 rfl
theorem dX12_blank_37 : decode cX12_blank 37 = .ok (.iload_n 2, 1) := kDec_at dA245_cX12_blank 4 rfl
theorem dX12_blank_38 : decode cX12_blank 38 = .ok (.imul, 1) := kDec_at dA245_cX12_blank 5 rfl
theorem dX12_blank_39 : decode cX12_blank 39 = .ok (.iload_n 3, 1) := kDec_at dA245_cX12_blank 6 rfl
theorem dX12_blank_40 : decode cX12_blank 40 = .ok (.iadd, 1) := kDec_at dA245_cX12_blank 7 rfl
theorem dX12_blank_41 : decode cX12_blank 41 = .ok (.iconst (-1), 1) := kDec_at dA245_cX12_blank 8 rfl
theorem dX12_blank_42 : decode cX12_blank 42 = .ok (.iastore, 1) := kDec_at dA245_cX12_blank 9 rfl
theorem dX12_blank_43 : decode cX12_blank 43 = .ok (.iinc 3 1, 3) := kDec_at dA245_cX12_blank 10 rfl
theorem dX12_blank_46 : decode cX12_blank 46 = .ok (.goto (-23), 3) := kDec_at dA245_cX12_blank 11 rfl

end

/-! 59.told -/
section
set_option maxHeartbeats 40000000 in
set_option maxRecDepth 100000 in
theorem f_X12_span (l : Launch) (dC : Nat → ClassId) (dI : Nat → Nat → Nat) (cI cS : ClassId) (sz : Nat) (oM : Nat) (mT : Nat) (mS : Nat) (mX : Nat) (mL : Nat) (mB : Nat) (mD : Nat) (m1 : Nat) (m2 : Nat) (mR : Nat) (x1 : Nat) (x2 : Nat) (x3 : Nat) (mH : Nat) (mY : Nat) (mE : Nat) (mW : Nat) (mO : Nat) (y1 : Nat) (y2 : Nat) (y3 : Nat) (y4 : Nat) (mZ : Nat) (zt : Int32) (zp : Int32) (zf : Int32) (zh : Int32) (zr : Int32) (zc : Int32) (zy : Int32) (za : Int32) (zb : Int32) (zs : Int32) (zq : Int32) (zw : Int32) (ze : Int32) (zn : Int32) (zm : Int32) (zl : Int32) (zk : Int32) (zd : Int32) (eL : Nat → Int32) (eB : Nat → Int32) (eD : Nat → Int32) (cd : Int32) (fr : Int32) (n : Int32) (le : Int32) (sp : Int32) (g_zt : 0 ≤ zt.toInt ∧ zt.toInt ≤ 900) (g_zp : 0 ≤ zp.toInt ∧ zp.toInt ≤ 20) (g_zf : 0 ≤ zf.toInt ∧ zf.toInt ≤ 19) (g_zh : 0 ≤ zh.toInt ∧ zh.toInt ≤ 6) (g_zr : 0 ≤ zr.toInt ∧ zr.toInt ≤ 258) (g_zc : 0 ≤ zc.toInt ∧ zc.toInt ≤ 300) (g_zy : 0 ≤ zy.toInt ∧ zy.toInt ≤ 65536) (g_za : 0 ≤ za.toInt ∧ za.toInt ≤ 5) (g_zb : 0 ≤ zb.toInt ∧ zb.toInt ≤ 5) (g_zs : 0 ≤ zs.toInt ∧ zs.toInt ≤ 2000000) (g_zq : -1 ≤ zq.toInt ∧ zq.toInt ≤ 2000000) (g_zn : 0 ≤ zn.toInt ∧ zn.toInt ≤ 2600) (g_zm : 0 ≤ zm.toInt ∧ zm.toInt ≤ 2600) (g_zk : 0 ≤ zk.toInt ∧ zk.toInt ≤ 300) (g_eL : rg (-1) 65535 eL) (g_eB : rg (-1) 255 eB) (hzs : zs.toInt ≤ 1000000) : kMi l yX12_span wsX12_span ({ frames := 1, cells := 0, slots := 0, locals := 20 } : Room) [.ref oM, .int cd, .int fr, .int n, .int le, .int sp] sz (dC, dI) vwCl [(cI, .int), (cS, .short)] [(oM, .inr (12, [.ref mT, .int zt, .ref mS, .ref mX, .int zp, .int zf, .ref mL, .ref mB, .ref mD, .ref m1, .ref m2, .int zh, .ref mR, .int zr, .ref x1, .ref x2, .ref x3, .int zc, .ref mH, .int zy, .int za, .int zb, .int zs, .int zq, .int zw, .int ze, .ref mY, .int zn, .ref mE, .int zm, .int zl, .ref mW, .int zk, .ref mO, .int zd, .ref y1, .ref y2, .ref y3, .ref y4, .ref mZ])), (mL, .inl (cI, 512, .inl eL)), (mB, .inl (cS, 131072, .inl eB)), (mD, .inl (cI, 2, .inl eD))] (fun _ => True) 0 0 (fun (A : Nat → Prop) (r : Int32) (hh9 : Heap) => ∃ (ze' : Int32) (zw' : Int32) (eL' : Nat → Int32) (eB' : Nat → Int32) (eD' : Nat → Int32) (zs' : Int32), kPD (dC, dI) vwCl A [(oM, .inr (12, [.ref mT, .int zt, .ref mS, .ref mX, .int zp, .int zf, .ref mL, .ref mB, .ref mD, .ref m1, .ref m2, .int zh, .ref mR, .int zr, .ref x1, .ref x2, .ref x3, .int zc, .ref mH, .int zy, .int za, .int zb, .int zs', .int zq, .int zw', .int ze', .ref mY, .int zn, .ref mE, .int zm, .int zl, .ref mW, .int zk, .ref mO, .int zd, .ref y1, .ref y2, .ref y3, .ref y4, .ref mZ])), (mL, .inl (cI, 512, .inl eL')), (mB, .inl (cS, 131072, .inl eB')), (mD, .inl (cI, 2, .inl eD'))] hh9 ∧ (rg (-1) 65535 eL') ∧ (rg (-1) 255 eB') ∧ (0 ≤ zs'.toInt ∧ zs'.toInt ≤ 2000000) ∧ (zs'.toInt ≤ zs.toInt + 1 ∧ zs.toInt ≤ zs'.toInt) ∧ (F_spanR r cd fr n le sp eL eL' eB eB' eD eD') ∧ (F_zsP (∃ t : Nat, cd.toInt = 4 + t ∧ t ≤ 1 ∧ CT fr n le sp (pL t eL) (pB t eB)) zs zs')) := by
  refine kMi_of (cc := cX12_span) (maxL := 9) (ret := (some .int)) (lv := [(0, .ref oM), (1, .int cd), (2, .int fr), (3, .int n), (4, .int le), (5, .int sp)]) (by decide +kernel) rfl rfl (Nat.le_of_ble_eq_true rfl) ?_
  intro p e s m below meth c A QQ ls hx hb hr hts hml hown hlocks hA hQQ hK hX hP hD hS hl
  have hown : s.vm.findClass RX12 = some m.cls := hown
  have hcf := k_cf hx hb hml hown hts
  have in_X12 : ∀ w ∈ wsX120, w ∈ wsX12_span := fun _ h => List.mem_cons_of_mem _ (List.mem_append_right _ (h))
  refine lv_aload_n hx hb dX12_span_0 rfl (lv_at hl 0 rfl) ?_
  refine lv_iconst (v := 0) hx hb dX12_span_1 (by decide) ?_
  refine va_put (D := (dC, dI)) (ci := 12) (v := .int 0) (ty := .int) (C := RX12) (T := TX12) (N := 40) hx hb hts in_X12 tyX12 tyX12_ok nmX12 hown hK hP hD hS 0 rfl rfl 25 (by decide) (hts (.fieldLink RX12 85 "TextMenderModel" "thrown" "I") (List.mem_of_getElem? (i := 1) rfl)) (fun _ h9 => h9) rfl (by decide +kernel) rfl rfl (Nat.le_of_ble_eq_true rfl) dX12_span_2 (kW (wn := [(oM, .inr (12, [.ref mT, .int zt, .ref mS, .ref mX, .int zp, .int zf, .ref mL, .ref mB, .ref mD, .ref m1, .ref m2, .int zh, .ref mR, .int zr, .ref x1, .ref x2, .ref x3, .int zc, .ref mH, .int zy, .int za, .int zb, .int zs, .int zq, .int zw, .int 0, .ref mY, .int zn, .ref mE, .int zm, .int zl, .ref mW, .int zk, .ref mO, .int zd, .ref y1, .ref y2, .ref y3, .ref y4, .ref mZ])), (mL, .inl (cI, 512, .inl eL)), (mB, .inl (cS, 131072, .inl eB)), (mD, .inl (cI, 2, .inl eD))]) rfl (fun H locs hPn hDn hSn => ?_))
  clear hP hD hS
  have hP := hPn
  have hD := hDn
  have hS := hSn
  clear hPn hDn hSn
  refine lv_aload_n hx hb dX12_span_5 rfl (lv_at hl 0 rfl) ?_
  refine lv_iconst (v := (-1)) hx hb dX12_span_6 (by decide) ?_
  refine va_put (D := (dC, dI)) (ci := 12) (v := .int (-1)) (ty := .int) (C := RX12) (T := TX12) (N := 40) hx hb hts in_X12 tyX12 tyX12_ok nmX12 hown hK hP hD hS 0 rfl rfl 24 (by decide) (hts (.fieldLink RX12 55 "TextMenderModel" "where" "I") (List.mem_of_getElem? (i := 2) rfl)) (fun _ h9 => h9) rfl (by decide +kernel) rfl rfl (Nat.le_of_ble_eq_true rfl) dX12_span_7 (kW (wn := [(oM, .inr (12, [.ref mT, .int zt, .ref mS, .ref mX, .int zp, .int zf, .ref mL, .ref mB, .ref mD, .ref m1, .ref m2, .int zh, .ref mR, .int zr, .ref x1, .ref x2, .ref x3, .int zc, .ref mH, .int zy, .int za, .int zb, .int zs, .int zq, .int (-1), .int 0, .ref mY, .int zn, .ref mE, .int zm, .int zl, .ref mW, .int zk, .ref mO, .int zd, .ref y1, .ref y2, .ref y3, .ref y4, .ref mZ])), (mL, .inl (cI, 512, .inl eL)), (mB, .inl (cS, 131072, .inl eB)), (mD, .inl (cI, 2, .inl eD))]) rfl (fun H locs hPn hDn hSn => ?_))
  clear hP hD hS
  have hP := hPn
  have hD := hDn
  have hS := hSn
  clear hPn hDn hSn
  refine lv_iload_n hx hb dX12_span_10 rfl (lv_at hl 1 rfl) ?_
  refine lv_iconst (v := 4) hx hb dX12_span_11 (by decide) ?_
  refine lv_icmp_lt (tgt := 71) hx hb dX12_span_12 (by decide) (fun c_1 => ?_) (fun c_1 => ?_)
  · have tc_1 : cd.toInt < 4 := v_lt c_1
    refine lv_iconst (v := (-1)) hx hb dX12_span_71 (by decide) ?_
    exact kl_i (v := (-1)) hQQ hx hb hr hlocks hS dX12_span_72 ⟨0, (-1), eL, eB, eD, zs, ⟨hP, hD⟩, g_eL, g_eB, g_zs, by show zs.toInt ≤ zs.toInt + 1 ∧ zs.toInt ≤ zs.toInt; omega, Or.inr ⟨rfl, rfl, rfl, rfl, fun t h1 h2 c => by have c1 := c.1; unfold isLz at c1; omega⟩, Or.inr ⟨fun ⟨t9, z1, z2, z3⟩ => (fun t h1 h2 c => by have c1 := c.1; unfold isLz at c1; omega) t9 z1 z2 z3, rfl⟩⟩
  · have tc_1 : 4 ≤ cd.toInt := v_nlt c_1
    refine lv_iload_n hx hb dX12_span_15 rfl (lv_at hl 1 rfl) ?_
    refine lv_iconst (v := 5) hx hb dX12_span_16 (by decide) ?_
    refine lv_icmp_gt (tgt := 71) hx hb dX12_span_17 (by decide) (fun c_2 => ?_) (fun c_2 => ?_)
    · have tc_2 : 5 < cd.toInt := v_lt c_2
      refine lv_iconst (v := (-1)) hx hb dX12_span_71 (by decide) ?_
      exact kl_i (v := (-1)) hQQ hx hb hr hlocks hS dX12_span_72 ⟨0, (-1), eL, eB, eD, zs, ⟨hP, hD⟩, g_eL, g_eB, g_zs, by show zs.toInt ≤ zs.toInt + 1 ∧ zs.toInt ≤ zs.toInt; omega, Or.inr ⟨rfl, rfl, rfl, rfl, fun t h1 h2 c => by have c1 := c.1; unfold isLz at c1; omega⟩, Or.inr ⟨fun ⟨t9, z1, z2, z3⟩ => (fun t h1 h2 c => by have c1 := c.1; unfold isLz at c1; omega) t9 z1 z2 z3, rfl⟩⟩
    · have tc_2 : cd.toInt ≤ 5 := v_nlt c_2
      refine lv_iload_n hx hb dX12_span_20 rfl (lv_at hl 2 rfl) ?_
      refine lv_if_lt (tgt := 71) hx hb dX12_span_21 (by decide) (fun c_3 => ?_) (fun c_3 => ?_)
      · have tc_3 : fr.toInt < 0 := v_lt c_3
        refine lv_iconst (v := (-1)) hx hb dX12_span_71 (by decide) ?_
        exact kl_i (v := (-1)) hQQ hx hb hr hlocks hS dX12_span_72 ⟨0, (-1), eL, eB, eD, zs, ⟨hP, hD⟩, g_eL, g_eB, g_zs, by show zs.toInt ≤ zs.toInt + 1 ∧ zs.toInt ≤ zs.toInt; omega, Or.inr ⟨rfl, rfl, rfl, rfl, fun t h1 h2 c => by have c1 := c.1; unfold isLz at c1; omega⟩, Or.inr ⟨fun ⟨t9, z1, z2, z3⟩ => (fun t h1 h2 c => by have c1 := c.1; unfold isLz at c1; omega) t9 z1 z2 z3, rfl⟩⟩
      · have tc_3 : 0 ≤ fr.toInt := v_nlt c_3
        refine lv_iload_n hx hb dX12_span_24 rfl (lv_at hl 2 rfl) ?_
        refine lv_sipush (v := 255) hx hb dX12_span_25 (by decide) ?_
        refine lv_icmp_gt (tgt := 71) hx hb dX12_span_28 (by decide) (fun c_4 => ?_) (fun c_4 => ?_)
        · have tc_4 : 255 < fr.toInt := v_lt c_4
          refine lv_iconst (v := (-1)) hx hb dX12_span_71 (by decide) ?_
          exact kl_i (v := (-1)) hQQ hx hb hr hlocks hS dX12_span_72 ⟨0, (-1), eL, eB, eD, zs, ⟨hP, hD⟩, g_eL, g_eB, g_zs, by show zs.toInt ≤ zs.toInt + 1 ∧ zs.toInt ≤ zs.toInt; omega, Or.inr ⟨rfl, rfl, rfl, rfl, fun t h1 h2 c => by have c1 := c.1; unfold isLz at c1; omega⟩, Or.inr ⟨fun ⟨t9, z1, z2, z3⟩ => (fun t h1 h2 c => by have c1 := c.1; unfold isLz at c1; omega) t9 z1 z2 z3, rfl⟩⟩
        · have tc_4 : fr.toInt ≤ 255 := v_nlt c_4
          refine lv_iload_n hx hb dX12_span_31 rfl (lv_at hl 3 rfl) ?_
          refine lv_iconst (v := 1) hx hb dX12_span_32 (by decide) ?_
          refine lv_icmp_lt (tgt := 71) hx hb dX12_span_33 (by decide) (fun c_5 => ?_) (fun c_5 => ?_)
          · have tc_5 : n.toInt < 1 := v_lt c_5
            refine lv_iconst (v := (-1)) hx hb dX12_span_71 (by decide) ?_
            exact kl_i (v := (-1)) hQQ hx hb hr hlocks hS dX12_span_72 ⟨0, (-1), eL, eB, eD, zs, ⟨hP, hD⟩, g_eL, g_eB, g_zs, by show zs.toInt ≤ zs.toInt + 1 ∧ zs.toInt ≤ zs.toInt; omega, Or.inr ⟨rfl, rfl, rfl, rfl, fun t h1 h2 c => by have c1 := c.1; unfold isLz at c1; omega⟩, Or.inr ⟨fun ⟨t9, z1, z2, z3⟩ => (fun t h1 h2 c => by have c1 := c.1; unfold isLz at c1; omega) t9 z1 z2 z3, rfl⟩⟩
          · have tc_5 : 1 ≤ n.toInt := v_nlt c_5
            refine lv_iload_n hx hb dX12_span_36 rfl (lv_at hl 3 rfl) ?_
            refine lv_sipush (v := 256) hx hb dX12_span_37 (by decide) ?_
            refine lv_iload_n hx hb dX12_span_40 rfl (lv_at hl 2 rfl) ?_
            refine lv_isub hx hb dX12_span_41 ?_
            refine lv_topi (fun x_6 ex_6 => ?_)
            have tx_6 : x_6.toInt = 256 - fr.toInt := v_sub ex_6 (by show -2147483648 ≤ 256 - fr.toInt; omega) (by show 256 - fr.toInt < 2147483648; omega)
            refine lv_icmp_gt (tgt := 71) hx hb dX12_span_42 (by decide) (fun c_7 => ?_) (fun c_7 => ?_)
            · have tc_7 : x_6.toInt < n.toInt := v_lt c_7
              have rw7_0 := v_rng n
              refine lv_iconst (v := (-1)) hx hb dX12_span_71 (by decide) ?_
              exact kl_i (v := (-1)) hQQ hx hb hr hlocks hS dX12_span_72 ⟨0, (-1), eL, eB, eD, zs, ⟨hP, hD⟩, g_eL, g_eB, g_zs, by show zs.toInt ≤ zs.toInt + 1 ∧ zs.toInt ≤ zs.toInt; omega, Or.inr ⟨rfl, rfl, rfl, rfl, fun t h1 h2 c => by have c1 := c.1; unfold isLz at c1; omega⟩, Or.inr ⟨fun ⟨t9, z1, z2, z3⟩ => (fun t h1 h2 c => by have c1 := c.1; unfold isLz at c1; omega) t9 z1 z2 z3, rfl⟩⟩
            · have tc_7 : n.toInt ≤ x_6.toInt := v_nlt c_7
              have rw7_0 := v_rng n
              refine lv_iload hx hb dX12_span_45 (lv_at hl 5 rfl) ?_
              refine lv_sipush (v := (-255)) hx hb dX12_span_47 (by decide) ?_
              refine lv_icmp_lt (tgt := 71) hx hb dX12_span_50 (by decide) (fun c_8 => ?_) (fun c_8 => ?_)
              · have tc_8 : sp.toInt < (-255) := v_lt c_8
                refine lv_iconst (v := (-1)) hx hb dX12_span_71 (by decide) ?_
                exact kl_i (v := (-1)) hQQ hx hb hr hlocks hS dX12_span_72 ⟨0, (-1), eL, eB, eD, zs, ⟨hP, hD⟩, g_eL, g_eB, g_zs, by show zs.toInt ≤ zs.toInt + 1 ∧ zs.toInt ≤ zs.toInt; omega, Or.inr ⟨rfl, rfl, rfl, rfl, fun t h1 h2 c => by have c1 := c.1; unfold isLz at c1; omega⟩, Or.inr ⟨fun ⟨t9, z1, z2, z3⟩ => (fun t h1 h2 c => by have c1 := c.1; unfold isLz at c1; omega) t9 z1 z2 z3, rfl⟩⟩
              · have tc_8 : (-255) ≤ sp.toInt := v_nlt c_8
                refine lv_iload hx hb dX12_span_53 (lv_at hl 5 rfl) ?_
                refine lv_sipush (v := 255) hx hb dX12_span_55 (by decide) ?_
                refine lv_icmp_gt (tgt := 71) hx hb dX12_span_58 (by decide) (fun c_9 => ?_) (fun c_9 => ?_)
                · have tc_9 : 255 < sp.toInt := v_lt c_9
                  refine lv_iconst (v := (-1)) hx hb dX12_span_71 (by decide) ?_
                  exact kl_i (v := (-1)) hQQ hx hb hr hlocks hS dX12_span_72 ⟨0, (-1), eL, eB, eD, zs, ⟨hP, hD⟩, g_eL, g_eB, g_zs, by show zs.toInt ≤ zs.toInt + 1 ∧ zs.toInt ≤ zs.toInt; omega, Or.inr ⟨rfl, rfl, rfl, rfl, fun t h1 h2 c => by have c1 := c.1; unfold isLz at c1; omega⟩, Or.inr ⟨fun ⟨t9, z1, z2, z3⟩ => (fun t h1 h2 c => by have c1 := c.1; unfold isLz at c1; omega) t9 z1 z2 z3, rfl⟩⟩
                · have tc_9 : sp.toInt ≤ 255 := v_nlt c_9
                  refine lv_iload_n hx hb dX12_span_61 rfl (lv_at hl 3 rfl) ?_
                  refine lv_iconst (v := 1) hx hb dX12_span_62 (by decide) ?_
                  refine lv_icmp_le (tgt := 73) hx hb dX12_span_63 (by decide) (fun c_10 => ?_) (fun c_10 => ?_)
                  · have tc_10 : n.toInt ≤ 1 := v_le c_10
                    refine lv_iload_n hx hb dX12_span_73 rfl (lv_at hl 1 rfl) ?_
                    refine lv_iconst (v := 4) hx hb dX12_span_74 (by decide) ?_
                    refine lv_isub hx hb dX12_span_75 ?_
                    refine lv_topi (fun x_11 ex_11 => ?_)
                    have tx_11 : x_11.toInt = cd.toInt - 4 := v_sub ex_11 (by show -2147483648 ≤ cd.toInt - 4; omega) (by show cd.toInt - 4 < 2147483648; omega)
                    refine lv_istore (lv' := [(6, .int x_11), (0, .ref oM), (1, .int cd), (2, .int fr), (3, .int n), (4, .int le), (5, .int sp)]) hx hb dX12_span_76 hl (by decide) rfl (fun ls hl => ?_)
                    refine lv_iload hx hb dX12_span_78 (lv_at hl 5 rfl) ?_
                    refine kS_i (rest := []) hcf (m_X12_isLetter l dC dI cI cS H.size le ) kc_X12_isLetter gX12_span_X12_isLetter rfl rfl ⟨Nat.le_of_ble_eq_true rfl, Nat.le_of_ble_eq_true rfl⟩ kX_t hK hP hD hS hA [] [0, 1, 2, 3] rfl (by decide +kernel) rfl hl rfl (Nat.le_of_ble_eq_true rfl) dX12_span_80 ⟨Nat.le_of_ble_eq_true rfl, Nat.le_of_ble_eq_true rfl⟩ (fun r_12 H locs hB hJ hSn => ?_)
                    obtain ⟨⟨hP1, hD1⟩, hf12_0, hf12_1⟩ := hB
                    obtain ⟨hPn, hDn⟩ := hJ _ hP1 hD1 [(oM, .inr (12, [.ref mT, .int zt, .ref mS, .ref mX, .int zp, .int zf, .ref mL, .ref mB, .ref mD, .ref m1, .ref m2, .int zh, .ref mR, .int zr, .ref x1, .ref x2, .ref x3, .int zc, .ref mH, .int zy, .int za, .int zb, .int zs, .int zq, .int (-1), .int 0, .ref mY, .int zn, .ref mE, .int zm, .int zl, .ref mW, .int zk, .ref mO, .int zd, .ref y1, .ref y2, .ref y3, .ref y4, .ref mZ])), (mL, .inl (cI, 512, .inl eL)), (mB, .inl (cS, 131072, .inl eB)), (mD, .inl (cI, 2, .inl eD))] rfl
                    clear hP hD hS hJ hP1 hD1
                    have hP := hPn
                    have hD := hDn
                    have hS := hSn
                    clear hPn hDn hSn
                    refine lv_if_ne (tgt := 88) hx hb dX12_span_83 (by decide) (fun c_13 => ?_) (fun c_13 => ?_)
                    · have tc_13 : ¬ r_12.toInt = 0 := v_ne c_13
                      refine lv_iconst (v := 0) hx hb dX12_span_88 (by decide) ?_
                      refine lv_istore (lv' := [(7, .int 0), (6, .int x_11), (0, .ref oM), (1, .int cd), (2, .int fr), (3, .int n), (4, .int le), (5, .int sp)]) hx hb dX12_span_89 hl (by decide) rfl (fun ls hl => ?_)
                      have LOOP_91 : ∀ (k_91 : Nat) (k : Int32) (H : Heap) (locs : List Loc) (ls : Array Slot), MSd (256 - k.toInt : Int) k_91 → (0 ≤ k.toInt ∧ k.toInt ≤ 256) → (CTk k.toInt fr le sp (pL (cd.toInt - 4).toNat eL) (pB (cd.toInt - 4).toNat eB)) → va_P (dC, dI) vwCl [(oM, .inr (12, [.ref mT, .int zt, .ref mS, .ref mX, .int zp, .int zf, .ref mL, .ref mB, .ref mD, .ref m1, .ref m2, .int zh, .ref mR, .int zr, .ref x1, .ref x2, .ref x3, .int zc, .ref mH, .int zy, .int za, .int zb, .int zs, .int zq, .int (-1), .int 0, .ref mY, .int zn, .ref mE, .int zm, .int zl, .ref mW, .int zk, .ref mO, .int zd, .ref y1, .ref y2, .ref y3, .ref y4, .ref mZ])), (mL, .inl (cI, 512, .inl eL)), (mB, .inl (cS, 131072, .inl eB)), (mD, .inl (cI, 2, .inl eD))] H → va_D A [(oM, .inr (12, [.ref mT, .int zt, .ref mS, .ref mX, .int zp, .int zf, .ref mL, .ref mB, .ref mD, .ref m1, .ref m2, .int zh, .ref mR, .int zr, .ref x1, .ref x2, .ref x3, .int zc, .ref mH, .int zy, .int za, .int zb, .int zs, .int zq, .int (-1), .int 0, .ref mY, .int zn, .ref mE, .int zm, .int zl, .ref mW, .int zk, .ref mO, .int zd, .ref y1, .ref y2, .ref y3, .ref y4, .ref mZ])), (mL, .inl (cI, 512, .inl eL)), (mB, .inl (cS, 131072, .inl eB)), (mD, .inl (cI, 2, .inl eD))] → va_S A s.heap H locs → lv_has ls 9 [(7, .int k), (6, .int x_11), (0, .ref oM), (1, .int cd), (2, .int fr), (3, .int n), (4, .int le), (5, .int sp)] → W p l e (headSpec wsX12_span ({ frames := 1, cells := 0, slots := 0, locals := 20 } : Room)).room s m ([.ref oM, .int cd, .int fr, .int n, .int le, .int sp] : List Value).toArray below meth c H locs 0 0 (MQ below QQ ([.ref oM, .int cd, .int fr, .int n, .int le, .int sp] : List Value).toArray s 0 0 A) (F0 m 91 ls []) := by
                        clear hP hD hS hl
                        intro k_91
                        induction k_91 with
                        | zero =>
                          intro k H locs ls hm_91 g_k hct hP hD hS hl
                          exact ms_0 hm_91
                        | succ k_91 ih_91 =>
                          intro k H locs ls hm_91 g_k hct hP hD hS hl
                          refine lv_iload hx hb dX12_span_91 (lv_at hl 0 rfl) ?_
                          refine lv_iload_n hx hb dX12_span_93 rfl (lv_at hl 5 rfl) ?_
                          refine lv_icmp_ge (tgt := 160) hx hb dX12_span_94 (by decide) (fun c_14 => ?_) (fun c_14 => ?_)
                          · have tc_14 : n.toInt ≤ k.toInt := v_le c_14
                            have hCT : CT fr n le sp (pL (cd.toInt - 4).toNat eL) (pB (cd.toInt - 4).toNat eB) := ⟨by unfold isLz; omega, CTk_le hct (by omega)⟩
                            have hokn : ∀ q : Int32, 0 ≤ q.toInt → q.toInt < n.toInt → 0 ≤ (le + q * sp).toInt ∧ (le + q * sp).toInt ≤ 65535 := fun q h1 h2 => ⟨(hCT.2 q h1 h2).1.1, (hCT.2 q h1 h2).1.2.1⟩
                            refine lv_iconst (v := 0) hx hb dX12_span_160 (by decide) ?_
                            refine lv_istore (lv' := [(7, .int 0), (6, .int x_11), (0, .ref oM), (1, .int cd), (2, .int fr), (3, .int n), (4, .int le), (5, .int sp)]) hx hb dX12_span_161 hl (by decide) rfl (fun ls hl => ?_)
                            have LOOP_163 : ∀ (k_163 : Nat) (k2 : Int32) (eLa : Nat → Int32) (eBa : Nat → Int32) (H : Heap) (locs : List Loc) (ls : Array Slot), MSd (256 - k2.toInt : Int) k_163 → (0 ≤ k2.toInt ∧ k2.toInt ≤ 256) → (rg (-1) 65535 eLa) → (rg (-1) 255 eBa) → (k2.toInt ≤ n.toInt) → (SPR (cd.toInt - 4).toNat k2 fr le sp eL eB eLa eBa) → va_P (dC, dI) vwCl [(oM, .inr (12, [.ref mT, .int zt, .ref mS, .ref mX, .int zp, .int zf, .ref mL, .ref mB, .ref mD, .ref m1, .ref m2, .int zh, .ref mR, .int zr, .ref x1, .ref x2, .ref x3, .int zc, .ref mH, .int zy, .int za, .int zb, .int zs, .int zq, .int (-1), .int 0, .ref mY, .int zn, .ref mE, .int zm, .int zl, .ref mW, .int zk, .ref mO, .int zd, .ref y1, .ref y2, .ref y3, .ref y4, .ref mZ])), (mL, .inl (cI, 512, .inl eLa)), (mB, .inl (cS, 131072, .inl eBa)), (mD, .inl (cI, 2, .inl eD))] H → va_D A [(oM, .inr (12, [.ref mT, .int zt, .ref mS, .ref mX, .int zp, .int zf, .ref mL, .ref mB, .ref mD, .ref m1, .ref m2, .int zh, .ref mR, .int zr, .ref x1, .ref x2, .ref x3, .int zc, .ref mH, .int zy, .int za, .int zb, .int zs, .int zq, .int (-1), .int 0, .ref mY, .int zn, .ref mE, .int zm, .int zl, .ref mW, .int zk, .ref mO, .int zd, .ref y1, .ref y2, .ref y3, .ref y4, .ref mZ])), (mL, .inl (cI, 512, .inl eLa)), (mB, .inl (cS, 131072, .inl eBa)), (mD, .inl (cI, 2, .inl eD))] → va_S A s.heap H locs → lv_has ls 9 [(7, .int k2), (6, .int x_11), (0, .ref oM), (1, .int cd), (2, .int fr), (3, .int n), (4, .int le), (5, .int sp)] → W p l e (headSpec wsX12_span ({ frames := 1, cells := 0, slots := 0, locals := 20 } : Room)).room s m ([.ref oM, .int cd, .int fr, .int n, .int le, .int sp] : List Value).toArray below meth c H locs 0 0 (MQ below QQ ([.ref oM, .int cd, .int fr, .int n, .int le, .int sp] : List Value).toArray s 0 0 A) (F0 m 163 ls []) := by
                              clear hP hD hS hl
                              intro k_163
                              induction k_163 with
                              | zero =>
                                intro k2 eLa eBa H locs ls hm_163 g_k2 g_eLa g_eBa hkn hspr hP hD hS hl
                                exact ms_0 hm_163
                              | succ k_163 ih_163 =>
                                intro k2 eLa eBa H locs ls hm_163 g_k2 g_eLa g_eBa hkn hspr hP hD hS hl
                                refine lv_iload hx hb dX12_span_163 (lv_at hl 0 rfl) ?_
                                refine lv_iload_n hx hb dX12_span_165 rfl (lv_at hl 5 rfl) ?_
                                refine lv_icmp_ge (tgt := 223) hx hb dX12_span_166 (by decide) (fun c_15 => ?_) (fun c_15 => ?_)
                                · have tc_15 : n.toInt ≤ k2.toInt := v_le c_15
                                  refine lv_aload_n hx hb dX12_span_223 rfl (lv_at hl 2 rfl) ?_
                                  refine va_get (D := (dC, dI)) (ci := 12) (v := .ref mD) (C := RX12) (T := TX12) (N := 40) hx hb hts in_X12 hown hK hP 0 rfl rfl 8 (by decide) (hts (.fieldLink RX12 27 "TextMenderModel" "told" "[I") (List.mem_of_getElem? (i := 6) rfl)) (fun _ h9 => h9) rfl dX12_span_224 ?_
                                  refine lv_iload hx hb dX12_span_227 (lv_at hl 1 rfl) ?_
                                  refine lv_dup2_11 hx hb dX12_span_229 rfl rfl ?_
                                  refine va_iald hx hb hK hP 3 0 rfl rfl (v_in (by omega)) dX12_span_230 ?_
                                  refine lv_topi (fun x_16 ex_16 => ?_)
                                  refine lv_iload_n hx hb dX12_span_231 rfl (lv_at hl 5 rfl) ?_
                                  refine lv_iadd hx hb dX12_span_232 ?_
                                  refine lv_topi (fun x_17 ex_17 => ?_)
                                  have rv17_0 := v_rng x_16
                                  obtain ⟨f_18, ef_18⟩ : ∃ g : Nat → Int32, g = upd eD (x_11 : Int32).toNatClampNeg x_17 := ⟨_, rfl⟩
                                  refine va_iast hx hb hK hP hD hS 3 0 rfl rfl (v_in (by omega)) dX12_span_233 (kWf (g := f_18) (F := fun f_18 => [(oM, .inr (12, [.ref mT, .int zt, .ref mS, .ref mX, .int zp, .int zf, .ref mL, .ref mB, .ref mD, .ref m1, .ref m2, .int zh, .ref mR, .int zr, .ref x1, .ref x2, .ref x3, .int zc, .ref mH, .int zy, .int za, .int zb, .int zs, .int zq, .int (-1), .int 0, .ref mY, .int zn, .ref mE, .int zm, .int zl, .ref mW, .int zk, .ref mO, .int zd, .ref y1, .ref y2, .ref y3, .ref y4, .ref mZ])), (mL, .inl (cI, 512, .inl eLa)), (mB, .inl (cS, 131072, .inl eBa)), (mD, .inl (cI, 2, .inl f_18))]) ef_18 rfl (fun H locs hPn hDn hSn => ?_))
                                  clear hP hD hS
                                  have hP := hPn
                                  have hD := hDn
                                  have hS := hSn
                                  clear hPn hDn hSn
                                  refine lv_aload_n hx hb dX12_span_234 rfl (lv_at hl 2 rfl) ?_
                                  refine lv_dup hx hb dX12_span_235 rfl ?_
                                  refine va_get (D := (dC, dI)) (ci := 12) (v := .int zs) (C := RX12) (T := TX12) (N := 40) hx hb hts in_X12 hown hK hP 0 rfl rfl 22 (by decide) (hts (.fieldLink RX12 148 "TextMenderModel" "state" "I") (List.mem_of_getElem? (i := 7) rfl)) (fun _ h9 => h9) rfl dX12_span_236 ?_
                                  refine lv_iconst (v := 1) hx hb dX12_span_239 (by decide) ?_
                                  refine lv_iadd hx hb dX12_span_240 ?_
                                  refine lv_topi (fun x_19 ex_19 => ?_)
                                  have tx_19 : x_19.toInt = zs.toInt + 1 := v_addR (l2 := 1) (h2 := 1) ex_19 g_zs (by decide) (by decide) (by decide)
                                  refine va_put (D := (dC, dI)) (ci := 12) (v := .int x_19) (ty := .int) (C := RX12) (T := TX12) (N := 40) hx hb hts in_X12 tyX12 tyX12_ok nmX12 hown hK hP hD hS 0 rfl rfl 22 (by decide) (hts (.fieldLink RX12 148 "TextMenderModel" "state" "I") (List.mem_of_getElem? (i := 7) rfl)) (fun _ h9 => h9) rfl (by decide +kernel) rfl rfl (Nat.le_of_ble_eq_true rfl) dX12_span_241 (kW (wn := [(oM, .inr (12, [.ref mT, .int zt, .ref mS, .ref mX, .int zp, .int zf, .ref mL, .ref mB, .ref mD, .ref m1, .ref m2, .int zh, .ref mR, .int zr, .ref x1, .ref x2, .ref x3, .int zc, .ref mH, .int zy, .int za, .int zb, .int x_19, .int zq, .int (-1), .int 0, .ref mY, .int zn, .ref mE, .int zm, .int zl, .ref mW, .int zk, .ref mO, .int zd, .ref y1, .ref y2, .ref y3, .ref y4, .ref mZ])), (mL, .inl (cI, 512, .inl eLa)), (mB, .inl (cS, 131072, .inl eBa)), (mD, .inl (cI, 2, .inl f_18))]) rfl (fun H locs hPn hDn hSn => ?_))
                                  clear hP hD hS
                                  have hP := hPn
                                  have hD := hDn
                                  have hS := hSn
                                  clear hPn hDn hSn
                                  refine lv_aload_n hx hb dX12_span_244 rfl (lv_at hl 2 rfl) ?_
                                  refine va_get (D := (dC, dI)) (ci := 12) (v := .ref mD) (C := RX12) (T := TX12) (N := 40) hx hb hts in_X12 hown hK hP 0 rfl rfl 8 (by decide) (hts (.fieldLink RX12 27 "TextMenderModel" "told" "[I") (List.mem_of_getElem? (i := 6) rfl)) (fun _ h9 => h9) rfl dX12_span_245 ?_
                                  refine lv_iload hx hb dX12_span_248 (lv_at hl 1 rfl) ?_
                                  refine va_iald hx hb hK hP 3 0 rfl rfl (v_in (by omega)) dX12_span_250 ?_
                                  refine lv_topi (fun x_20 ex_20 => ?_)
                                  exact kl_i (v := x_20) hQQ hx hb hr hlocks hS dX12_span_251 ⟨0, (-1), eLa, eBa, f_18, x_19, ⟨hP, hD⟩, g_eLa, g_eBa, by omega, by show x_19.toInt ≤ zs.toInt + 1 ∧ zs.toInt ≤ x_19.toInt; omega, Or.inl ⟨(cd.toInt - 4).toNat, by omega, by omega, hCT, SPR_n hspr (by omega), (spanR_d (cd := cd) (by omega) (by omega) ex_16 ex_17 ef_18 ex_20).1, (spanR_d (cd := cd) (by omega) (by omega) ex_16 ex_17 ef_18 ex_20).2⟩, Or.inl ⟨⟨(cd.toInt - 4).toNat, by omega, by omega, hCT⟩, by omega⟩⟩
                                · have tc_15 : k2.toInt < n.toInt := v_nle c_15
                                  refine lv_aload_n hx hb dX12_span_169 rfl (lv_at hl 2 rfl) ?_
                                  refine va_get (D := (dC, dI)) (ci := 12) (v := .ref mL) (C := RX12) (T := TX12) (N := 40) hx hb hts in_X12 hown hK hP 0 rfl rfl 6 (by decide) (hts (.fieldLink RX12 19 "TextMenderModel" "letterOf" "[I") (List.mem_of_getElem? (i := 3) rfl)) (fun _ h9 => h9) rfl dX12_span_170 ?_
                                  refine lv_sipush (v := 256) hx hb dX12_span_173 (by decide) ?_
                                  refine lv_iload hx hb dX12_span_176 (lv_at hl 1 rfl) ?_
                                  refine lv_imul hx hb dX12_span_178 ?_
                                  refine lv_topi (fun x_21 ex_21 => ?_)
                                  have tx_21 : x_21.toInt = 256 * x_11.toInt := v_mul ex_21 (by show -2147483648 ≤ 256 * x_11.toInt; omega) (by show 256 * x_11.toInt < 2147483648; omega)
                                  refine lv_iload_n hx hb dX12_span_179 rfl (lv_at hl 4 rfl) ?_
                                  refine lv_iadd hx hb dX12_span_180 ?_
                                  refine lv_topi (fun x_22 ex_22 => ?_)
                                  have tx_22 : x_22.toInt = x_21.toInt + fr.toInt := v_add ex_22 (by show -2147483648 ≤ x_21.toInt + fr.toInt; omega) (by show x_21.toInt + fr.toInt < 2147483648; omega)
                                  refine lv_iload hx hb dX12_span_181 (lv_at hl 0 rfl) ?_
                                  refine lv_iadd hx hb dX12_span_183 ?_
                                  refine lv_topi (fun x_23 ex_23 => ?_)
                                  have tx_23 : x_23.toInt = x_22.toInt + k2.toInt := v_add ex_23 (by show -2147483648 ≤ x_22.toInt + k2.toInt; omega) (by show x_22.toInt + k2.toInt < 2147483648; omega)
                                  refine lv_iload hx hb dX12_span_184 (lv_at hl 6 rfl) ?_
                                  refine lv_iload hx hb dX12_span_186 (lv_at hl 0 rfl) ?_
                                  refine lv_iload hx hb dX12_span_188 (lv_at hl 7 rfl) ?_
                                  refine lv_imul hx hb dX12_span_190 ?_
                                  refine lv_topi (fun x_24 ex_24 => ?_)
                                  refine lv_iadd hx hb dX12_span_191 ?_
                                  refine lv_topi (fun x_25 ex_25 => ?_)
                                  have rv25_1 := v_rng x_24
                                  have ts_x_25 := sp_at (n := n.toInt) hokn ex_24 ex_25 (by omega) (by omega)
                                  obtain ⟨f_26, ef_26⟩ : ∃ g : Nat → Int32, g = upd eLa (x_23 : Int32).toNatClampNeg x_25 := ⟨_, rfl⟩
                                  refine va_iast hx hb hK hP hD hS 1 0 rfl rfl (v_in (by omega)) dX12_span_192 (kWf (g := f_26) (F := fun f_26 => [(oM, .inr (12, [.ref mT, .int zt, .ref mS, .ref mX, .int zp, .int zf, .ref mL, .ref mB, .ref mD, .ref m1, .ref m2, .int zh, .ref mR, .int zr, .ref x1, .ref x2, .ref x3, .int zc, .ref mH, .int zy, .int za, .int zb, .int zs, .int zq, .int (-1), .int 0, .ref mY, .int zn, .ref mE, .int zm, .int zl, .ref mW, .int zk, .ref mO, .int zd, .ref y1, .ref y2, .ref y3, .ref y4, .ref mZ])), (mL, .inl (cI, 512, .inl f_26)), (mB, .inl (cS, 131072, .inl eBa)), (mD, .inl (cI, 2, .inl eD))]) ef_26 rfl (fun H locs hPn hDn hSn => ?_))
                                  clear hP hD hS
                                  have hP := hPn
                                  have hD := hDn
                                  have hS := hSn
                                  clear hPn hDn hSn
                                  have g_f26 : rg (-1) 65535 f_26 := rg_upd ef_26 g_eLa (by omega)
                                  refine lv_aload_n hx hb dX12_span_193 rfl (lv_at hl 2 rfl) ?_
                                  refine va_get (D := (dC, dI)) (ci := 12) (v := .ref mB) (C := RX12) (T := TX12) (N := 40) hx hb hts in_X12 hown hK hP 0 rfl rfl 7 (by decide) (hts (.fieldLink RX12 23 "TextMenderModel" "byteOfLetter" "[S") (List.mem_of_getElem? (i := 4) rfl)) (fun _ h9 => h9) rfl dX12_span_194 ?_
                                  refine lv_ldc hx hb hown (hts (.constant RX12 88 (65536)) (List.mem_of_getElem? (i := 5) rfl)) dX12_span_197 ?_
                                  refine lv_iload hx hb dX12_span_199 (lv_at hl 1 rfl) ?_
                                  refine lv_imul hx hb dX12_span_201 ?_
                                  refine lv_topi (fun x_27 ex_27 => ?_)
                                  have tx_27 : x_27.toInt = 65536 * x_11.toInt := v_mul ex_27 (by show -2147483648 ≤ 65536 * x_11.toInt; omega) (by show 65536 * x_11.toInt < 2147483648; omega)
                                  refine lv_iload hx hb dX12_span_202 (lv_at hl 6 rfl) ?_
                                  refine lv_iadd hx hb dX12_span_204 ?_
                                  refine lv_topi (fun x_28 ex_28 => ?_)
                                  have tx_28 : x_28.toInt = x_27.toInt + le.toInt := v_add ex_28 (by show -2147483648 ≤ x_27.toInt + le.toInt; omega) (by show x_27.toInt + le.toInt < 2147483648; omega)
                                  refine lv_iload hx hb dX12_span_205 (lv_at hl 0 rfl) ?_
                                  refine lv_iload hx hb dX12_span_207 (lv_at hl 7 rfl) ?_
                                  refine lv_imul hx hb dX12_span_209 ?_
                                  refine lv_topi (fun x_29 ex_29 => ?_)
                                  refine lv_iadd hx hb dX12_span_210 ?_
                                  refine lv_topi (fun x_30 ex_30 => ?_)
                                  have rv30_1 := v_rng x_29
                                  have ts_x_30 := sp_ix (n := n.toInt) hokn ex_29 ex_28 ex_30 (by omega) (by omega) (by omega)
                                  refine lv_iload_n hx hb dX12_span_211 rfl (lv_at hl 4 rfl) ?_
                                  refine lv_iload hx hb dX12_span_212 (lv_at hl 0 rfl) ?_
                                  refine lv_iadd hx hb dX12_span_214 ?_
                                  refine lv_topi (fun x_31 ex_31 => ?_)
                                  have tx_31 : x_31.toInt = fr.toInt + k2.toInt := v_add ex_31 (by show -2147483648 ≤ fr.toInt + k2.toInt; omega) (by show fr.toInt + k2.toInt < 2147483648; omega)
                                  obtain ⟨x_32, ex_32⟩ : ∃ v : Int32, v = (x_31 : Int32).toInt16.toInt32 := ⟨_, rfl⟩
                                  refine lv_i2s (v := x_32) hx hb dX12_span_215 ex_32.symm ?_
                                  have tx_32 : x_32.toInt = x_31.toInt := v_i2s ex_32 (by omega)
                                  obtain ⟨f_33, ef_33⟩ : ∃ g : Nat → Int32, g = upd eBa (x_30 : Int32).toNatClampNeg (vp_nar .short x_32) := ⟨_, rfl⟩
                                  refine va_sast hx hb hK hP hD hS 2 1 rfl rfl (v_in (by omega)) dX12_span_216 (kWf (g := f_33) (F := fun f_33 => [(oM, .inr (12, [.ref mT, .int zt, .ref mS, .ref mX, .int zp, .int zf, .ref mL, .ref mB, .ref mD, .ref m1, .ref m2, .int zh, .ref mR, .int zr, .ref x1, .ref x2, .ref x3, .int zc, .ref mH, .int zy, .int za, .int zb, .int zs, .int zq, .int (-1), .int 0, .ref mY, .int zn, .ref mE, .int zm, .int zl, .ref mW, .int zk, .ref mO, .int zd, .ref y1, .ref y2, .ref y3, .ref y4, .ref mZ])), (mL, .inl (cI, 512, .inl f_26)), (mB, .inl (cS, 131072, .inl f_33)), (mD, .inl (cI, 2, .inl eD))]) ef_33 rfl (fun H locs hPn hDn hSn => ?_))
                                  clear hP hD hS
                                  have hP := hPn
                                  have hD := hDn
                                  have hS := hSn
                                  clear hPn hDn hSn
                                  have g_f33 : rg (-1) 255 f_33 := rg_upd ef_33 g_eBa (v_nars (by omega) (by omega))
                                  obtain ⟨x_34, ex_34⟩ : ∃ y : Int32, y = k2 + 1 := ⟨_, rfl⟩
                                  have tx_34 : x_34.toInt = k2.toInt + 1 := v_addR (l2 := 1) (h2 := 1) ex_34 g_k2 (by decide) (by decide) (by decide)
                                  refine lv_iinc (v := x_34) (lv' := [(7, .int x_34), (6, .int x_11), (0, .ref oM), (1, .int cd), (2, .int fr), (3, .int n), (4, .int le), (5, .int sp)]) hx hb dX12_span_217 hl (k := 0) rfl (by rw [ex_34]; rfl) (by decide) rfl (fun ls hl => ?_)
                                  refine lv_goto (tgt := 163) hx hb dX12_span_220 (by decide) ?_
                                  exact ih_163 x_34 f_26 f_33 _ _ _ (ms_lt hm_163 (by show ((256 - x_34.toInt : Int)) < 256 - k2.toInt; omega) (by show (0 : Int) < 256 - k2.toInt; omega)) (by show 0 ≤ x_34.toInt ∧ x_34.toInt ≤ 256; omega) (g_f26) (g_f33) (by show x_34.toInt ≤ n.toInt; omega) (SPR_s hCT hspr (by omega) (by omega) (by omega) ex_24 ex_25 ex_29 ex_28 ex_30 (z := x_27) (by omega) (a := x_23) (by omega) (w := vp_nar .short x_32) (by rw [v_nar_s (by omega)]; omega) ef_26 ef_33 (by omega)) hP hD hS (lv_sub hl [0, 1, 2, 3, 4, 5, 6, 7] rfl)
                            exact LOOP_163 _ 0 eL eB _ _ _ (ms_s _) (by decide) (g_eL) (g_eB) (by show 0 ≤ n.toInt; omega) (SPR_0) hP hD hS (lv_sub hl [0, 1, 2, 3, 4, 5, 6, 7] rfl)
                          · have tc_14 : k.toInt < n.toInt := v_nle c_14
                            refine lv_iload hx hb dX12_span_97 (lv_at hl 6 rfl) ?_
                            refine lv_iload hx hb dX12_span_99 (lv_at hl 0 rfl) ?_
                            refine lv_iload hx hb dX12_span_101 (lv_at hl 7 rfl) ?_
                            refine lv_imul hx hb dX12_span_103 ?_
                            refine lv_topi (fun x_35 ex_35 => ?_)
                            refine lv_iadd hx hb dX12_span_104 ?_
                            refine lv_topi (fun x_36 ex_36 => ?_)
                            have rv36_1 := v_rng x_35
                            refine lv_istore (lv' := [(8, .int x_36), (7, .int k), (6, .int x_11), (0, .ref oM), (1, .int cd), (2, .int fr), (3, .int n), (4, .int le), (5, .int sp)]) hx hb dX12_span_105 hl (by decide) rfl (fun ls hl => ?_)
                            refine lv_iload hx hb dX12_span_107 (lv_at hl 0 rfl) ?_
                            refine kS_i (rest := []) hcf (m_X12_isLetter l dC dI cI cS H.size x_36 ) kc_X12_isLetter gX12_span_X12_isLetter rfl rfl ⟨Nat.le_of_ble_eq_true rfl, Nat.le_of_ble_eq_true rfl⟩ kX_t hK hP hD hS hA [] [0, 1, 2, 3] rfl (by decide +kernel) rfl hl rfl (Nat.le_of_ble_eq_true rfl) dX12_span_109 ⟨Nat.le_of_ble_eq_true rfl, Nat.le_of_ble_eq_true rfl⟩ (fun r_37 H locs hB hJ hSn => ?_)
                            obtain ⟨⟨hP1, hD1⟩, hf37_0, hf37_1⟩ := hB
                            obtain ⟨hPn, hDn⟩ := hJ _ hP1 hD1 [(oM, .inr (12, [.ref mT, .int zt, .ref mS, .ref mX, .int zp, .int zf, .ref mL, .ref mB, .ref mD, .ref m1, .ref m2, .int zh, .ref mR, .int zr, .ref x1, .ref x2, .ref x3, .int zc, .ref mH, .int zy, .int za, .int zb, .int zs, .int zq, .int (-1), .int 0, .ref mY, .int zn, .ref mE, .int zm, .int zl, .ref mW, .int zk, .ref mO, .int zd, .ref y1, .ref y2, .ref y3, .ref y4, .ref mZ])), (mL, .inl (cI, 512, .inl eL)), (mB, .inl (cS, 131072, .inl eB)), (mD, .inl (cI, 2, .inl eD))] rfl
                            clear hP hD hS hJ hP1 hD1
                            have hP := hPn
                            have hD := hDn
                            have hS := hSn
                            clear hPn hDn hSn
                            refine lv_if_eq (tgt := 152) hx hb dX12_span_112 (by decide) (fun c_38 => ?_) (fun c_38 => ?_)
                            · have tc_38 : r_37.toInt = 0 := v_eq c_38
                              refine lv_iconst (v := (-1)) hx hb dX12_span_152 (by decide) ?_
                              exact kl_i (v := (-1)) hQQ hx hb hr hlocks hS dX12_span_153 ⟨0, (-1), eL, eB, eD, zs, ⟨hP, hD⟩, g_eL, g_eB, g_zs, by show zs.toInt ≤ zs.toInt + 1 ∧ zs.toInt ≤ zs.toInt; omega, Or.inr ⟨rfl, rfl, rfl, rfl, spanR_no (by omega) ex_35 ex_36 (by omega) (by omega) (fun z => by have z1 := z.1; unfold isLz at z1; omega)⟩, Or.inr ⟨fun ⟨t9, z1, z2, z3⟩ => (spanR_no (by omega) ex_35 ex_36 (by omega) (by omega) (fun z => by have z1 := z.1; unfold isLz at z1; omega)) t9 z1 z2 z3, rfl⟩⟩
                            · have tc_38 : ¬ r_37.toInt = 0 := v_ne c_38
                              have tl_x_36 : 0 ≤ x_36.toInt ∧ x_36.toInt ≤ 65535 := by omega
                              refine lv_aload_n hx hb dX12_span_115 rfl (lv_at hl 3 rfl) ?_
                              refine va_get (D := (dC, dI)) (ci := 12) (v := .ref mL) (C := RX12) (T := TX12) (N := 40) hx hb hts in_X12 hown hK hP 0 rfl rfl 6 (by decide) (hts (.fieldLink RX12 19 "TextMenderModel" "letterOf" "[I") (List.mem_of_getElem? (i := 3) rfl)) (fun _ h9 => h9) rfl dX12_span_116 ?_
                              refine lv_sipush (v := 256) hx hb dX12_span_119 (by decide) ?_
                              refine lv_iload hx hb dX12_span_122 (lv_at hl 2 rfl) ?_
                              refine lv_imul hx hb dX12_span_124 ?_
                              refine lv_topi (fun x_39 ex_39 => ?_)
                              have tx_39 : x_39.toInt = 256 * x_11.toInt := v_mul ex_39 (by show -2147483648 ≤ 256 * x_11.toInt; omega) (by show 256 * x_11.toInt < 2147483648; omega)
                              refine lv_iload_n hx hb dX12_span_125 rfl (lv_at hl 5 rfl) ?_
                              refine lv_iadd hx hb dX12_span_126 ?_
                              refine lv_topi (fun x_40 ex_40 => ?_)
                              have tx_40 : x_40.toInt = x_39.toInt + fr.toInt := v_add ex_40 (by show -2147483648 ≤ x_39.toInt + fr.toInt; omega) (by show x_39.toInt + fr.toInt < 2147483648; omega)
                              refine lv_iload hx hb dX12_span_127 (lv_at hl 1 rfl) ?_
                              refine lv_iadd hx hb dX12_span_129 ?_
                              refine lv_topi (fun x_41 ex_41 => ?_)
                              have tx_41 : x_41.toInt = x_40.toInt + k.toInt := v_add ex_41 (by show -2147483648 ≤ x_40.toInt + k.toInt; omega) (by show x_40.toInt + k.toInt < 2147483648; omega)
                              refine va_iald hx hb hK hP 1 0 rfl rfl (v_in (by omega)) dX12_span_130 ?_
                              refine lv_topi (fun x_42 ex_42 => ?_)
                              have tx_42 : -1 ≤ x_42.toInt ∧ x_42.toInt ≤ 65535 := rg_at g_eL ex_42
                              refine lv_iconst (v := (-1)) hx hb dX12_span_131 (by decide) ?_
                              refine lv_icmp_ne (tgt := 152) hx hb dX12_span_132 (by decide) (fun c_43 => ?_) (fun c_43 => ?_)
                              · have tc_43 : ¬ x_42.toInt = (-1) := v_ne c_43
                                refine lv_iconst (v := (-1)) hx hb dX12_span_152 (by decide) ?_
                                exact kl_i (v := (-1)) hQQ hx hb hr hlocks hS dX12_span_153 ⟨0, (-1), eL, eB, eD, zs, ⟨hP, hD⟩, g_eL, g_eB, g_zs, by show zs.toInt ≤ zs.toInt + 1 ∧ zs.toInt ≤ zs.toInt; omega, Or.inr ⟨rfl, rfl, rfl, rfl, spanR_no (by omega) ex_35 ex_36 (by omega) (by omega) (fun z => c_43 (by rw [ex_42, ix_eq (x := x_41) (N := 256 * (cd.toInt - 4).toNat + (fr.toInt + k.toInt).toNat) (by omega)]; exact z.2.1))⟩, Or.inr ⟨fun ⟨t9, z1, z2, z3⟩ => (spanR_no (by omega) ex_35 ex_36 (by omega) (by omega) (fun z => c_43 (by rw [ex_42, ix_eq (x := x_41) (N := 256 * (cd.toInt - 4).toNat + (fr.toInt + k.toInt).toNat) (by omega)]; exact z.2.1))) t9 z1 z2 z3, rfl⟩⟩
                              · have tc_43 : x_42.toInt = (-1) := v_eq c_43
                                refine lv_aload_n hx hb dX12_span_135 rfl (lv_at hl 3 rfl) ?_
                                refine va_get (D := (dC, dI)) (ci := 12) (v := .ref mB) (C := RX12) (T := TX12) (N := 40) hx hb hts in_X12 hown hK hP 0 rfl rfl 7 (by decide) (hts (.fieldLink RX12 23 "TextMenderModel" "byteOfLetter" "[S") (List.mem_of_getElem? (i := 4) rfl)) (fun _ h9 => h9) rfl dX12_span_136 ?_
                                refine lv_ldc hx hb hown (hts (.constant RX12 88 (65536)) (List.mem_of_getElem? (i := 5) rfl)) dX12_span_139 ?_
                                refine lv_iload hx hb dX12_span_141 (lv_at hl 2 rfl) ?_
                                refine lv_imul hx hb dX12_span_143 ?_
                                refine lv_topi (fun x_44 ex_44 => ?_)
                                have tx_44 : x_44.toInt = 65536 * x_11.toInt := v_mul ex_44 (by show -2147483648 ≤ 65536 * x_11.toInt; omega) (by show 65536 * x_11.toInt < 2147483648; omega)
                                refine lv_iload hx hb dX12_span_144 (lv_at hl 0 rfl) ?_
                                refine lv_iadd hx hb dX12_span_146 ?_
                                refine lv_topi (fun x_45 ex_45 => ?_)
                                have tx_45 : x_45.toInt = x_44.toInt + x_36.toInt := v_add ex_45 (by show -2147483648 ≤ x_44.toInt + x_36.toInt; omega) (by show x_44.toInt + x_36.toInt < 2147483648; omega)
                                refine va_sald hx hb hK hP 2 1 rfl rfl (v_in (by omega)) dX12_span_147 ?_
                                refine lv_topi (fun x_46 ex_46 => ?_)
                                have tx_46 : -1 ≤ x_46.toInt ∧ x_46.toInt ≤ 255 := rg_at g_eB ex_46
                                refine lv_iconst (v := (-1)) hx hb dX12_span_148 (by decide) ?_
                                refine lv_icmp_eq (tgt := 154) hx hb dX12_span_149 (by decide) (fun c_47 => ?_) (fun c_47 => ?_)
                                · have tc_47 : x_46.toInt = (-1) := v_eq c_47
                                  obtain ⟨x_48, ex_48⟩ : ∃ y : Int32, y = k + 1 := ⟨_, rfl⟩
                                  have tx_48 : x_48.toInt = k.toInt + 1 := v_addR (l2 := 1) (h2 := 1) ex_48 g_k (by decide) (by decide) (by decide)
                                  refine lv_iinc (v := x_48) (lv' := [(7, .int x_48), (8, .int x_36), (6, .int x_11), (0, .ref oM), (1, .int cd), (2, .int fr), (3, .int n), (4, .int le), (5, .int sp)]) hx hb dX12_span_154 hl (k := 1) rfl (by rw [ex_48]; rfl) (by decide) rfl (fun ls hl => ?_)
                                  refine lv_goto (tgt := 91) hx hb dX12_span_157 (by decide) ?_
                                  exact ih_91 x_48 _ _ _ (ms_lt hm_91 (by show ((256 - x_48.toInt : Int)) < 256 - k.toInt; omega) (by show (0 : Int) < 256 - k.toInt; omega)) (by show 0 ≤ x_48.toInt ∧ x_48.toInt ≤ 256; omega) (CTk_s hct ex_35 ex_36 (by omega) (by unfold isLz; omega) (by unfold pL; rw [← ix_eq (x := x_41) (N := 256 * (cd.toInt - 4).toNat + (fr.toInt + k.toInt).toNat) (by omega), ← ex_42]; exact c_43) (by unfold pB; have c9 := v_clamp (x := x_36) (by omega); rw [← ix_eq (x := x_45) (N := 65536 * (cd.toInt - 4).toNat + x_36.toNatClampNeg) (by omega), ← ex_46]; exact c_47)) hP hD hS (lv_sub hl [0, 2, 3, 4, 5, 6, 7, 8] rfl)
                                · have tc_47 : ¬ x_46.toInt = (-1) := v_ne c_47
                                  refine lv_iconst (v := (-1)) hx hb dX12_span_152 (by decide) ?_
                                  exact kl_i (v := (-1)) hQQ hx hb hr hlocks hS dX12_span_153 ⟨0, (-1), eL, eB, eD, zs, ⟨hP, hD⟩, g_eL, g_eB, g_zs, by show zs.toInt ≤ zs.toInt + 1 ∧ zs.toInt ≤ zs.toInt; omega, Or.inr ⟨rfl, rfl, rfl, rfl, spanR_no (by omega) ex_35 ex_36 (by omega) (by omega) (fun z => c_47 (by have c9 := v_clamp (x := x_36) (by omega); rw [ex_46, ix_eq (x := x_45) (N := 65536 * (cd.toInt - 4).toNat + x_36.toNatClampNeg) (by omega)]; exact z.2.2))⟩, Or.inr ⟨fun ⟨t9, z1, z2, z3⟩ => (spanR_no (by omega) ex_35 ex_36 (by omega) (by omega) (fun z => c_47 (by have c9 := v_clamp (x := x_36) (by omega); rw [ex_46, ix_eq (x := x_45) (N := 65536 * (cd.toInt - 4).toNat + x_36.toNatClampNeg) (by omega)]; exact z.2.2))) t9 z1 z2 z3, rfl⟩⟩
                      exact LOOP_91 _ 0 _ _ _ (ms_s _) (by decide) (CTk_0 (by decide)) hP hD hS (lv_sub hl [0, 1, 2, 3, 4, 5, 6, 7] rfl)
                    · have tc_13 : r_12.toInt = 0 := v_eq c_13
                      refine lv_iconst (v := (-1)) hx hb dX12_span_86 (by decide) ?_
                      exact kl_i (v := (-1)) hQQ hx hb hr hlocks hS dX12_span_87 ⟨0, (-1), eL, eB, eD, zs, ⟨hP, hD⟩, g_eL, g_eB, g_zs, by show zs.toInt ≤ zs.toInt + 1 ∧ zs.toInt ≤ zs.toInt; omega, Or.inr ⟨rfl, rfl, rfl, rfl, fun t h1 h2 c => by have c1 := c.1; unfold isLz at c1; omega⟩, Or.inr ⟨fun ⟨t9, z1, z2, z3⟩ => (fun t h1 h2 c => by have c1 := c.1; unfold isLz at c1; omega) t9 z1 z2 z3, rfl⟩⟩
                  · have tc_10 : 1 < n.toInt := v_nle c_10
                    refine lv_iload hx hb dX12_span_66 (lv_at hl 5 rfl) ?_
                    refine lv_if_ne (tgt := 73) hx hb dX12_span_68 (by decide) (fun c_49 => ?_) (fun c_49 => ?_)
                    · have tc_49 : ¬ sp.toInt = 0 := v_ne c_49
                      refine lv_iload_n hx hb dX12_span_73 rfl (lv_at hl 1 rfl) ?_
                      refine lv_iconst (v := 4) hx hb dX12_span_74 (by decide) ?_
                      refine lv_isub hx hb dX12_span_75 ?_
                      refine lv_topi (fun x_50 ex_50 => ?_)
                      have tx_50 : x_50.toInt = cd.toInt - 4 := v_sub ex_50 (by show -2147483648 ≤ cd.toInt - 4; omega) (by show cd.toInt - 4 < 2147483648; omega)
                      refine lv_istore (lv' := [(6, .int x_50), (0, .ref oM), (1, .int cd), (2, .int fr), (3, .int n), (4, .int le), (5, .int sp)]) hx hb dX12_span_76 hl (by decide) rfl (fun ls hl => ?_)
                      refine lv_iload hx hb dX12_span_78 (lv_at hl 5 rfl) ?_
                      refine kS_i (rest := []) hcf (m_X12_isLetter l dC dI cI cS H.size le ) kc_X12_isLetter gX12_span_X12_isLetter rfl rfl ⟨Nat.le_of_ble_eq_true rfl, Nat.le_of_ble_eq_true rfl⟩ kX_t hK hP hD hS hA [] [0, 1, 2, 3] rfl (by decide +kernel) rfl hl rfl (Nat.le_of_ble_eq_true rfl) dX12_span_80 ⟨Nat.le_of_ble_eq_true rfl, Nat.le_of_ble_eq_true rfl⟩ (fun r_51 H locs hB hJ hSn => ?_)
                      obtain ⟨⟨hP1, hD1⟩, hf51_0, hf51_1⟩ := hB
                      obtain ⟨hPn, hDn⟩ := hJ _ hP1 hD1 [(oM, .inr (12, [.ref mT, .int zt, .ref mS, .ref mX, .int zp, .int zf, .ref mL, .ref mB, .ref mD, .ref m1, .ref m2, .int zh, .ref mR, .int zr, .ref x1, .ref x2, .ref x3, .int zc, .ref mH, .int zy, .int za, .int zb, .int zs, .int zq, .int (-1), .int 0, .ref mY, .int zn, .ref mE, .int zm, .int zl, .ref mW, .int zk, .ref mO, .int zd, .ref y1, .ref y2, .ref y3, .ref y4, .ref mZ])), (mL, .inl (cI, 512, .inl eL)), (mB, .inl (cS, 131072, .inl eB)), (mD, .inl (cI, 2, .inl eD))] rfl
                      clear hP hD hS hJ hP1 hD1
                      have hP := hPn
                      have hD := hDn
                      have hS := hSn
                      clear hPn hDn hSn
                      refine lv_if_ne (tgt := 88) hx hb dX12_span_83 (by decide) (fun c_52 => ?_) (fun c_52 => ?_)
                      · have tc_52 : ¬ r_51.toInt = 0 := v_ne c_52
                        refine lv_iconst (v := 0) hx hb dX12_span_88 (by decide) ?_
                        refine lv_istore (lv' := [(7, .int 0), (6, .int x_50), (0, .ref oM), (1, .int cd), (2, .int fr), (3, .int n), (4, .int le), (5, .int sp)]) hx hb dX12_span_89 hl (by decide) rfl (fun ls hl => ?_)
                        have LOOP_91 : ∀ (k_91 : Nat) (k : Int32) (H : Heap) (locs : List Loc) (ls : Array Slot), MSd (256 - k.toInt : Int) k_91 → (0 ≤ k.toInt ∧ k.toInt ≤ 256) → (CTk k.toInt fr le sp (pL (cd.toInt - 4).toNat eL) (pB (cd.toInt - 4).toNat eB)) → va_P (dC, dI) vwCl [(oM, .inr (12, [.ref mT, .int zt, .ref mS, .ref mX, .int zp, .int zf, .ref mL, .ref mB, .ref mD, .ref m1, .ref m2, .int zh, .ref mR, .int zr, .ref x1, .ref x2, .ref x3, .int zc, .ref mH, .int zy, .int za, .int zb, .int zs, .int zq, .int (-1), .int 0, .ref mY, .int zn, .ref mE, .int zm, .int zl, .ref mW, .int zk, .ref mO, .int zd, .ref y1, .ref y2, .ref y3, .ref y4, .ref mZ])), (mL, .inl (cI, 512, .inl eL)), (mB, .inl (cS, 131072, .inl eB)), (mD, .inl (cI, 2, .inl eD))] H → va_D A [(oM, .inr (12, [.ref mT, .int zt, .ref mS, .ref mX, .int zp, .int zf, .ref mL, .ref mB, .ref mD, .ref m1, .ref m2, .int zh, .ref mR, .int zr, .ref x1, .ref x2, .ref x3, .int zc, .ref mH, .int zy, .int za, .int zb, .int zs, .int zq, .int (-1), .int 0, .ref mY, .int zn, .ref mE, .int zm, .int zl, .ref mW, .int zk, .ref mO, .int zd, .ref y1, .ref y2, .ref y3, .ref y4, .ref mZ])), (mL, .inl (cI, 512, .inl eL)), (mB, .inl (cS, 131072, .inl eB)), (mD, .inl (cI, 2, .inl eD))] → va_S A s.heap H locs → lv_has ls 9 [(7, .int k), (6, .int x_50), (0, .ref oM), (1, .int cd), (2, .int fr), (3, .int n), (4, .int le), (5, .int sp)] → W p l e (headSpec wsX12_span ({ frames := 1, cells := 0, slots := 0, locals := 20 } : Room)).room s m ([.ref oM, .int cd, .int fr, .int n, .int le, .int sp] : List Value).toArray below meth c H locs 0 0 (MQ below QQ ([.ref oM, .int cd, .int fr, .int n, .int le, .int sp] : List Value).toArray s 0 0 A) (F0 m 91 ls []) := by
                          clear hP hD hS hl
                          intro k_91
                          induction k_91 with
                          | zero =>
                            intro k H locs ls hm_91 g_k hct hP hD hS hl
                            exact ms_0 hm_91
                          | succ k_91 ih_91 =>
                            intro k H locs ls hm_91 g_k hct hP hD hS hl
                            refine lv_iload hx hb dX12_span_91 (lv_at hl 0 rfl) ?_
                            refine lv_iload_n hx hb dX12_span_93 rfl (lv_at hl 5 rfl) ?_
                            refine lv_icmp_ge (tgt := 160) hx hb dX12_span_94 (by decide) (fun c_53 => ?_) (fun c_53 => ?_)
                            · have tc_53 : n.toInt ≤ k.toInt := v_le c_53
                              have hCT : CT fr n le sp (pL (cd.toInt - 4).toNat eL) (pB (cd.toInt - 4).toNat eB) := ⟨by unfold isLz; omega, CTk_le hct (by omega)⟩
                              have hokn : ∀ q : Int32, 0 ≤ q.toInt → q.toInt < n.toInt → 0 ≤ (le + q * sp).toInt ∧ (le + q * sp).toInt ≤ 65535 := fun q h1 h2 => ⟨(hCT.2 q h1 h2).1.1, (hCT.2 q h1 h2).1.2.1⟩
                              refine lv_iconst (v := 0) hx hb dX12_span_160 (by decide) ?_
                              refine lv_istore (lv' := [(7, .int 0), (6, .int x_50), (0, .ref oM), (1, .int cd), (2, .int fr), (3, .int n), (4, .int le), (5, .int sp)]) hx hb dX12_span_161 hl (by decide) rfl (fun ls hl => ?_)
                              have LOOP_163 : ∀ (k_163 : Nat) (k2 : Int32) (eLa : Nat → Int32) (eBa : Nat → Int32) (H : Heap) (locs : List Loc) (ls : Array Slot), MSd (256 - k2.toInt : Int) k_163 → (0 ≤ k2.toInt ∧ k2.toInt ≤ 256) → (rg (-1) 65535 eLa) → (rg (-1) 255 eBa) → (k2.toInt ≤ n.toInt) → (SPR (cd.toInt - 4).toNat k2 fr le sp eL eB eLa eBa) → va_P (dC, dI) vwCl [(oM, .inr (12, [.ref mT, .int zt, .ref mS, .ref mX, .int zp, .int zf, .ref mL, .ref mB, .ref mD, .ref m1, .ref m2, .int zh, .ref mR, .int zr, .ref x1, .ref x2, .ref x3, .int zc, .ref mH, .int zy, .int za, .int zb, .int zs, .int zq, .int (-1), .int 0, .ref mY, .int zn, .ref mE, .int zm, .int zl, .ref mW, .int zk, .ref mO, .int zd, .ref y1, .ref y2, .ref y3, .ref y4, .ref mZ])), (mL, .inl (cI, 512, .inl eLa)), (mB, .inl (cS, 131072, .inl eBa)), (mD, .inl (cI, 2, .inl eD))] H → va_D A [(oM, .inr (12, [.ref mT, .int zt, .ref mS, .ref mX, .int zp, .int zf, .ref mL, .ref mB, .ref mD, .ref m1, .ref m2, .int zh, .ref mR, .int zr, .ref x1, .ref x2, .ref x3, .int zc, .ref mH, .int zy, .int za, .int zb, .int zs, .int zq, .int (-1), .int 0, .ref mY, .int zn, .ref mE, .int zm, .int zl, .ref mW, .int zk, .ref mO, .int zd, .ref y1, .ref y2, .ref y3, .ref y4, .ref mZ])), (mL, .inl (cI, 512, .inl eLa)), (mB, .inl (cS, 131072, .inl eBa)), (mD, .inl (cI, 2, .inl eD))] → va_S A s.heap H locs → lv_has ls 9 [(7, .int k2), (6, .int x_50), (0, .ref oM), (1, .int cd), (2, .int fr), (3, .int n), (4, .int le), (5, .int sp)] → W p l e (headSpec wsX12_span ({ frames := 1, cells := 0, slots := 0, locals := 20 } : Room)).room s m ([.ref oM, .int cd, .int fr, .int n, .int le, .int sp] : List Value).toArray below meth c H locs 0 0 (MQ below QQ ([.ref oM, .int cd, .int fr, .int n, .int le, .int sp] : List Value).toArray s 0 0 A) (F0 m 163 ls []) := by
                                clear hP hD hS hl
                                intro k_163
                                induction k_163 with
                                | zero =>
                                  intro k2 eLa eBa H locs ls hm_163 g_k2 g_eLa g_eBa hkn hspr hP hD hS hl
                                  exact ms_0 hm_163
                                | succ k_163 ih_163 =>
                                  intro k2 eLa eBa H locs ls hm_163 g_k2 g_eLa g_eBa hkn hspr hP hD hS hl
                                  refine lv_iload hx hb dX12_span_163 (lv_at hl 0 rfl) ?_
                                  refine lv_iload_n hx hb dX12_span_165 rfl (lv_at hl 5 rfl) ?_
                                  refine lv_icmp_ge (tgt := 223) hx hb dX12_span_166 (by decide) (fun c_54 => ?_) (fun c_54 => ?_)
                                  · have tc_54 : n.toInt ≤ k2.toInt := v_le c_54
                                    refine lv_aload_n hx hb dX12_span_223 rfl (lv_at hl 2 rfl) ?_
                                    refine va_get (D := (dC, dI)) (ci := 12) (v := .ref mD) (C := RX12) (T := TX12) (N := 40) hx hb hts in_X12 hown hK hP 0 rfl rfl 8 (by decide) (hts (.fieldLink RX12 27 "TextMenderModel" "told" "[I") (List.mem_of_getElem? (i := 6) rfl)) (fun _ h9 => h9) rfl dX12_span_224 ?_
                                    refine lv_iload hx hb dX12_span_227 (lv_at hl 1 rfl) ?_
                                    refine lv_dup2_11 hx hb dX12_span_229 rfl rfl ?_
                                    refine va_iald hx hb hK hP 3 0 rfl rfl (v_in (by omega)) dX12_span_230 ?_
                                    refine lv_topi (fun x_55 ex_55 => ?_)
                                    refine lv_iload_n hx hb dX12_span_231 rfl (lv_at hl 5 rfl) ?_
                                    refine lv_iadd hx hb dX12_span_232 ?_
                                    refine lv_topi (fun x_56 ex_56 => ?_)
                                    have rv56_0 := v_rng x_55
                                    obtain ⟨f_57, ef_57⟩ : ∃ g : Nat → Int32, g = upd eD (x_50 : Int32).toNatClampNeg x_56 := ⟨_, rfl⟩
                                    refine va_iast hx hb hK hP hD hS 3 0 rfl rfl (v_in (by omega)) dX12_span_233 (kWf (g := f_57) (F := fun f_57 => [(oM, .inr (12, [.ref mT, .int zt, .ref mS, .ref mX, .int zp, .int zf, .ref mL, .ref mB, .ref mD, .ref m1, .ref m2, .int zh, .ref mR, .int zr, .ref x1, .ref x2, .ref x3, .int zc, .ref mH, .int zy, .int za, .int zb, .int zs, .int zq, .int (-1), .int 0, .ref mY, .int zn, .ref mE, .int zm, .int zl, .ref mW, .int zk, .ref mO, .int zd, .ref y1, .ref y2, .ref y3, .ref y4, .ref mZ])), (mL, .inl (cI, 512, .inl eLa)), (mB, .inl (cS, 131072, .inl eBa)), (mD, .inl (cI, 2, .inl f_57))]) ef_57 rfl (fun H locs hPn hDn hSn => ?_))
                                    clear hP hD hS
                                    have hP := hPn
                                    have hD := hDn
                                    have hS := hSn
                                    clear hPn hDn hSn
                                    refine lv_aload_n hx hb dX12_span_234 rfl (lv_at hl 2 rfl) ?_
                                    refine lv_dup hx hb dX12_span_235 rfl ?_
                                    refine va_get (D := (dC, dI)) (ci := 12) (v := .int zs) (C := RX12) (T := TX12) (N := 40) hx hb hts in_X12 hown hK hP 0 rfl rfl 22 (by decide) (hts (.fieldLink RX12 148 "TextMenderModel" "state" "I") (List.mem_of_getElem? (i := 7) rfl)) (fun _ h9 => h9) rfl dX12_span_236 ?_
                                    refine lv_iconst (v := 1) hx hb dX12_span_239 (by decide) ?_
                                    refine lv_iadd hx hb dX12_span_240 ?_
                                    refine lv_topi (fun x_58 ex_58 => ?_)
                                    have tx_58 : x_58.toInt = zs.toInt + 1 := v_addR (l2 := 1) (h2 := 1) ex_58 g_zs (by decide) (by decide) (by decide)
                                    refine va_put (D := (dC, dI)) (ci := 12) (v := .int x_58) (ty := .int) (C := RX12) (T := TX12) (N := 40) hx hb hts in_X12 tyX12 tyX12_ok nmX12 hown hK hP hD hS 0 rfl rfl 22 (by decide) (hts (.fieldLink RX12 148 "TextMenderModel" "state" "I") (List.mem_of_getElem? (i := 7) rfl)) (fun _ h9 => h9) rfl (by decide +kernel) rfl rfl (Nat.le_of_ble_eq_true rfl) dX12_span_241 (kW (wn := [(oM, .inr (12, [.ref mT, .int zt, .ref mS, .ref mX, .int zp, .int zf, .ref mL, .ref mB, .ref mD, .ref m1, .ref m2, .int zh, .ref mR, .int zr, .ref x1, .ref x2, .ref x3, .int zc, .ref mH, .int zy, .int za, .int zb, .int x_58, .int zq, .int (-1), .int 0, .ref mY, .int zn, .ref mE, .int zm, .int zl, .ref mW, .int zk, .ref mO, .int zd, .ref y1, .ref y2, .ref y3, .ref y4, .ref mZ])), (mL, .inl (cI, 512, .inl eLa)), (mB, .inl (cS, 131072, .inl eBa)), (mD, .inl (cI, 2, .inl f_57))]) rfl (fun H locs hPn hDn hSn => ?_))
                                    clear hP hD hS
                                    have hP := hPn
                                    have hD := hDn
                                    have hS := hSn
                                    clear hPn hDn hSn
                                    refine lv_aload_n hx hb dX12_span_244 rfl (lv_at hl 2 rfl) ?_
                                    refine va_get (D := (dC, dI)) (ci := 12) (v := .ref mD) (C := RX12) (T := TX12) (N := 40) hx hb hts in_X12 hown hK hP 0 rfl rfl 8 (by decide) (hts (.fieldLink RX12 27 "TextMenderModel" "told" "[I") (List.mem_of_getElem? (i := 6) rfl)) (fun _ h9 => h9) rfl dX12_span_245 ?_
                                    refine lv_iload hx hb dX12_span_248 (lv_at hl 1 rfl) ?_
                                    refine va_iald hx hb hK hP 3 0 rfl rfl (v_in (by omega)) dX12_span_250 ?_
                                    refine lv_topi (fun x_59 ex_59 => ?_)
                                    exact kl_i (v := x_59) hQQ hx hb hr hlocks hS dX12_span_251 ⟨0, (-1), eLa, eBa, f_57, x_58, ⟨hP, hD⟩, g_eLa, g_eBa, by omega, by show x_58.toInt ≤ zs.toInt + 1 ∧ zs.toInt ≤ x_58.toInt; omega, Or.inl ⟨(cd.toInt - 4).toNat, by omega, by omega, hCT, SPR_n hspr (by omega), (spanR_d (cd := cd) (by omega) (by omega) ex_55 ex_56 ef_57 ex_59).1, (spanR_d (cd := cd) (by omega) (by omega) ex_55 ex_56 ef_57 ex_59).2⟩, Or.inl ⟨⟨(cd.toInt - 4).toNat, by omega, by omega, hCT⟩, by omega⟩⟩
                                  · have tc_54 : k2.toInt < n.toInt := v_nle c_54
                                    refine lv_aload_n hx hb dX12_span_169 rfl (lv_at hl 2 rfl) ?_
                                    refine va_get (D := (dC, dI)) (ci := 12) (v := .ref mL) (C := RX12) (T := TX12) (N := 40) hx hb hts in_X12 hown hK hP 0 rfl rfl 6 (by decide) (hts (.fieldLink RX12 19 "TextMenderModel" "letterOf" "[I") (List.mem_of_getElem? (i := 3) rfl)) (fun _ h9 => h9) rfl dX12_span_170 ?_
                                    refine lv_sipush (v := 256) hx hb dX12_span_173 (by decide) ?_
                                    refine lv_iload hx hb dX12_span_176 (lv_at hl 1 rfl) ?_
                                    refine lv_imul hx hb dX12_span_178 ?_
                                    refine lv_topi (fun x_60 ex_60 => ?_)
                                    have tx_60 : x_60.toInt = 256 * x_50.toInt := v_mul ex_60 (by show -2147483648 ≤ 256 * x_50.toInt; omega) (by show 256 * x_50.toInt < 2147483648; omega)
                                    refine lv_iload_n hx hb dX12_span_179 rfl (lv_at hl 4 rfl) ?_
                                    refine lv_iadd hx hb dX12_span_180 ?_
                                    refine lv_topi (fun x_61 ex_61 => ?_)
                                    have tx_61 : x_61.toInt = x_60.toInt + fr.toInt := v_add ex_61 (by show -2147483648 ≤ x_60.toInt + fr.toInt; omega) (by show x_60.toInt + fr.toInt < 2147483648; omega)
                                    refine lv_iload hx hb dX12_span_181 (lv_at hl 0 rfl) ?_
                                    refine lv_iadd hx hb dX12_span_183 ?_
                                    refine lv_topi (fun x_62 ex_62 => ?_)
                                    have tx_62 : x_62.toInt = x_61.toInt + k2.toInt := v_add ex_62 (by show -2147483648 ≤ x_61.toInt + k2.toInt; omega) (by show x_61.toInt + k2.toInt < 2147483648; omega)
                                    refine lv_iload hx hb dX12_span_184 (lv_at hl 6 rfl) ?_
                                    refine lv_iload hx hb dX12_span_186 (lv_at hl 0 rfl) ?_
                                    refine lv_iload hx hb dX12_span_188 (lv_at hl 7 rfl) ?_
                                    refine lv_imul hx hb dX12_span_190 ?_
                                    refine lv_topi (fun x_63 ex_63 => ?_)
                                    refine lv_iadd hx hb dX12_span_191 ?_
                                    refine lv_topi (fun x_64 ex_64 => ?_)
                                    have rv64_1 := v_rng x_63
                                    have ts_x_64 := sp_at (n := n.toInt) hokn ex_63 ex_64 (by omega) (by omega)
                                    obtain ⟨f_65, ef_65⟩ : ∃ g : Nat → Int32, g = upd eLa (x_62 : Int32).toNatClampNeg x_64 := ⟨_, rfl⟩
                                    refine va_iast hx hb hK hP hD hS 1 0 rfl rfl (v_in (by omega)) dX12_span_192 (kWf (g := f_65) (F := fun f_65 => [(oM, .inr (12, [.ref mT, .int zt, .ref mS, .ref mX, .int zp, .int zf, .ref mL, .ref mB, .ref mD, .ref m1, .ref m2, .int zh, .ref mR, .int zr, .ref x1, .ref x2, .ref x3, .int zc, .ref mH, .int zy, .int za, .int zb, .int zs, .int zq, .int (-1), .int 0, .ref mY, .int zn, .ref mE, .int zm, .int zl, .ref mW, .int zk, .ref mO, .int zd, .ref y1, .ref y2, .ref y3, .ref y4, .ref mZ])), (mL, .inl (cI, 512, .inl f_65)), (mB, .inl (cS, 131072, .inl eBa)), (mD, .inl (cI, 2, .inl eD))]) ef_65 rfl (fun H locs hPn hDn hSn => ?_))
                                    clear hP hD hS
                                    have hP := hPn
                                    have hD := hDn
                                    have hS := hSn
                                    clear hPn hDn hSn
                                    have g_f65 : rg (-1) 65535 f_65 := rg_upd ef_65 g_eLa (by omega)
                                    refine lv_aload_n hx hb dX12_span_193 rfl (lv_at hl 2 rfl) ?_
                                    refine va_get (D := (dC, dI)) (ci := 12) (v := .ref mB) (C := RX12) (T := TX12) (N := 40) hx hb hts in_X12 hown hK hP 0 rfl rfl 7 (by decide) (hts (.fieldLink RX12 23 "TextMenderModel" "byteOfLetter" "[S") (List.mem_of_getElem? (i := 4) rfl)) (fun _ h9 => h9) rfl dX12_span_194 ?_
                                    refine lv_ldc hx hb hown (hts (.constant RX12 88 (65536)) (List.mem_of_getElem? (i := 5) rfl)) dX12_span_197 ?_
                                    refine lv_iload hx hb dX12_span_199 (lv_at hl 1 rfl) ?_
                                    refine lv_imul hx hb dX12_span_201 ?_
                                    refine lv_topi (fun x_66 ex_66 => ?_)
                                    have tx_66 : x_66.toInt = 65536 * x_50.toInt := v_mul ex_66 (by show -2147483648 ≤ 65536 * x_50.toInt; omega) (by show 65536 * x_50.toInt < 2147483648; omega)
                                    refine lv_iload hx hb dX12_span_202 (lv_at hl 6 rfl) ?_
                                    refine lv_iadd hx hb dX12_span_204 ?_
                                    refine lv_topi (fun x_67 ex_67 => ?_)
                                    have tx_67 : x_67.toInt = x_66.toInt + le.toInt := v_add ex_67 (by show -2147483648 ≤ x_66.toInt + le.toInt; omega) (by show x_66.toInt + le.toInt < 2147483648; omega)
                                    refine lv_iload hx hb dX12_span_205 (lv_at hl 0 rfl) ?_
                                    refine lv_iload hx hb dX12_span_207 (lv_at hl 7 rfl) ?_
                                    refine lv_imul hx hb dX12_span_209 ?_
                                    refine lv_topi (fun x_68 ex_68 => ?_)
                                    refine lv_iadd hx hb dX12_span_210 ?_
                                    refine lv_topi (fun x_69 ex_69 => ?_)
                                    have rv69_1 := v_rng x_68
                                    have ts_x_69 := sp_ix (n := n.toInt) hokn ex_68 ex_67 ex_69 (by omega) (by omega) (by omega)
                                    refine lv_iload_n hx hb dX12_span_211 rfl (lv_at hl 4 rfl) ?_
                                    refine lv_iload hx hb dX12_span_212 (lv_at hl 0 rfl) ?_
                                    refine lv_iadd hx hb dX12_span_214 ?_
                                    refine lv_topi (fun x_70 ex_70 => ?_)
                                    have tx_70 : x_70.toInt = fr.toInt + k2.toInt := v_add ex_70 (by show -2147483648 ≤ fr.toInt + k2.toInt; omega) (by show fr.toInt + k2.toInt < 2147483648; omega)
                                    obtain ⟨x_71, ex_71⟩ : ∃ v : Int32, v = (x_70 : Int32).toInt16.toInt32 := ⟨_, rfl⟩
                                    refine lv_i2s (v := x_71) hx hb dX12_span_215 ex_71.symm ?_
                                    have tx_71 : x_71.toInt = x_70.toInt := v_i2s ex_71 (by omega)
                                    obtain ⟨f_72, ef_72⟩ : ∃ g : Nat → Int32, g = upd eBa (x_69 : Int32).toNatClampNeg (vp_nar .short x_71) := ⟨_, rfl⟩
                                    refine va_sast hx hb hK hP hD hS 2 1 rfl rfl (v_in (by omega)) dX12_span_216 (kWf (g := f_72) (F := fun f_72 => [(oM, .inr (12, [.ref mT, .int zt, .ref mS, .ref mX, .int zp, .int zf, .ref mL, .ref mB, .ref mD, .ref m1, .ref m2, .int zh, .ref mR, .int zr, .ref x1, .ref x2, .ref x3, .int zc, .ref mH, .int zy, .int za, .int zb, .int zs, .int zq, .int (-1), .int 0, .ref mY, .int zn, .ref mE, .int zm, .int zl, .ref mW, .int zk, .ref mO, .int zd, .ref y1, .ref y2, .ref y3, .ref y4, .ref mZ])), (mL, .inl (cI, 512, .inl f_65)), (mB, .inl (cS, 131072, .inl f_72)), (mD, .inl (cI, 2, .inl eD))]) ef_72 rfl (fun H locs hPn hDn hSn => ?_))
                                    clear hP hD hS
                                    have hP := hPn
                                    have hD := hDn
                                    have hS := hSn
                                    clear hPn hDn hSn
                                    have g_f72 : rg (-1) 255 f_72 := rg_upd ef_72 g_eBa (v_nars (by omega) (by omega))
                                    obtain ⟨x_73, ex_73⟩ : ∃ y : Int32, y = k2 + 1 := ⟨_, rfl⟩
                                    have tx_73 : x_73.toInt = k2.toInt + 1 := v_addR (l2 := 1) (h2 := 1) ex_73 g_k2 (by decide) (by decide) (by decide)
                                    refine lv_iinc (v := x_73) (lv' := [(7, .int x_73), (6, .int x_50), (0, .ref oM), (1, .int cd), (2, .int fr), (3, .int n), (4, .int le), (5, .int sp)]) hx hb dX12_span_217 hl (k := 0) rfl (by rw [ex_73]; rfl) (by decide) rfl (fun ls hl => ?_)
                                    refine lv_goto (tgt := 163) hx hb dX12_span_220 (by decide) ?_
                                    exact ih_163 x_73 f_65 f_72 _ _ _ (ms_lt hm_163 (by show ((256 - x_73.toInt : Int)) < 256 - k2.toInt; omega) (by show (0 : Int) < 256 - k2.toInt; omega)) (by show 0 ≤ x_73.toInt ∧ x_73.toInt ≤ 256; omega) (g_f65) (g_f72) (by show x_73.toInt ≤ n.toInt; omega) (SPR_s hCT hspr (by omega) (by omega) (by omega) ex_63 ex_64 ex_68 ex_67 ex_69 (z := x_66) (by omega) (a := x_62) (by omega) (w := vp_nar .short x_71) (by rw [v_nar_s (by omega)]; omega) ef_65 ef_72 (by omega)) hP hD hS (lv_sub hl [0, 1, 2, 3, 4, 5, 6, 7] rfl)
                              exact LOOP_163 _ 0 eL eB _ _ _ (ms_s _) (by decide) (g_eL) (g_eB) (by show 0 ≤ n.toInt; omega) (SPR_0) hP hD hS (lv_sub hl [0, 1, 2, 3, 4, 5, 6, 7] rfl)
                            · have tc_53 : k.toInt < n.toInt := v_nle c_53
                              refine lv_iload hx hb dX12_span_97 (lv_at hl 6 rfl) ?_
                              refine lv_iload hx hb dX12_span_99 (lv_at hl 0 rfl) ?_
                              refine lv_iload hx hb dX12_span_101 (lv_at hl 7 rfl) ?_
                              refine lv_imul hx hb dX12_span_103 ?_
                              refine lv_topi (fun x_74 ex_74 => ?_)
                              refine lv_iadd hx hb dX12_span_104 ?_
                              refine lv_topi (fun x_75 ex_75 => ?_)
                              have rv75_1 := v_rng x_74
                              refine lv_istore (lv' := [(8, .int x_75), (7, .int k), (6, .int x_50), (0, .ref oM), (1, .int cd), (2, .int fr), (3, .int n), (4, .int le), (5, .int sp)]) hx hb dX12_span_105 hl (by decide) rfl (fun ls hl => ?_)
                              refine lv_iload hx hb dX12_span_107 (lv_at hl 0 rfl) ?_
                              refine kS_i (rest := []) hcf (m_X12_isLetter l dC dI cI cS H.size x_75 ) kc_X12_isLetter gX12_span_X12_isLetter rfl rfl ⟨Nat.le_of_ble_eq_true rfl, Nat.le_of_ble_eq_true rfl⟩ kX_t hK hP hD hS hA [] [0, 1, 2, 3] rfl (by decide +kernel) rfl hl rfl (Nat.le_of_ble_eq_true rfl) dX12_span_109 ⟨Nat.le_of_ble_eq_true rfl, Nat.le_of_ble_eq_true rfl⟩ (fun r_76 H locs hB hJ hSn => ?_)
                              obtain ⟨⟨hP1, hD1⟩, hf76_0, hf76_1⟩ := hB
                              obtain ⟨hPn, hDn⟩ := hJ _ hP1 hD1 [(oM, .inr (12, [.ref mT, .int zt, .ref mS, .ref mX, .int zp, .int zf, .ref mL, .ref mB, .ref mD, .ref m1, .ref m2, .int zh, .ref mR, .int zr, .ref x1, .ref x2, .ref x3, .int zc, .ref mH, .int zy, .int za, .int zb, .int zs, .int zq, .int (-1), .int 0, .ref mY, .int zn, .ref mE, .int zm, .int zl, .ref mW, .int zk, .ref mO, .int zd, .ref y1, .ref y2, .ref y3, .ref y4, .ref mZ])), (mL, .inl (cI, 512, .inl eL)), (mB, .inl (cS, 131072, .inl eB)), (mD, .inl (cI, 2, .inl eD))] rfl
                              clear hP hD hS hJ hP1 hD1
                              have hP := hPn
                              have hD := hDn
                              have hS := hSn
                              clear hPn hDn hSn
                              refine lv_if_eq (tgt := 152) hx hb dX12_span_112 (by decide) (fun c_77 => ?_) (fun c_77 => ?_)
                              · have tc_77 : r_76.toInt = 0 := v_eq c_77
                                refine lv_iconst (v := (-1)) hx hb dX12_span_152 (by decide) ?_
                                exact kl_i (v := (-1)) hQQ hx hb hr hlocks hS dX12_span_153 ⟨0, (-1), eL, eB, eD, zs, ⟨hP, hD⟩, g_eL, g_eB, g_zs, by show zs.toInt ≤ zs.toInt + 1 ∧ zs.toInt ≤ zs.toInt; omega, Or.inr ⟨rfl, rfl, rfl, rfl, spanR_no (by omega) ex_74 ex_75 (by omega) (by omega) (fun z => by have z1 := z.1; unfold isLz at z1; omega)⟩, Or.inr ⟨fun ⟨t9, z1, z2, z3⟩ => (spanR_no (by omega) ex_74 ex_75 (by omega) (by omega) (fun z => by have z1 := z.1; unfold isLz at z1; omega)) t9 z1 z2 z3, rfl⟩⟩
                              · have tc_77 : ¬ r_76.toInt = 0 := v_ne c_77
                                have tl_x_75 : 0 ≤ x_75.toInt ∧ x_75.toInt ≤ 65535 := by omega
                                refine lv_aload_n hx hb dX12_span_115 rfl (lv_at hl 3 rfl) ?_
                                refine va_get (D := (dC, dI)) (ci := 12) (v := .ref mL) (C := RX12) (T := TX12) (N := 40) hx hb hts in_X12 hown hK hP 0 rfl rfl 6 (by decide) (hts (.fieldLink RX12 19 "TextMenderModel" "letterOf" "[I") (List.mem_of_getElem? (i := 3) rfl)) (fun _ h9 => h9) rfl dX12_span_116 ?_
                                refine lv_sipush (v := 256) hx hb dX12_span_119 (by decide) ?_
                                refine lv_iload hx hb dX12_span_122 (lv_at hl 2 rfl) ?_
                                refine lv_imul hx hb dX12_span_124 ?_
                                refine lv_topi (fun x_78 ex_78 => ?_)
                                have tx_78 : x_78.toInt = 256 * x_50.toInt := v_mul ex_78 (by show -2147483648 ≤ 256 * x_50.toInt; omega) (by show 256 * x_50.toInt < 2147483648; omega)
                                refine lv_iload_n hx hb dX12_span_125 rfl (lv_at hl 5 rfl) ?_
                                refine lv_iadd hx hb dX12_span_126 ?_
                                refine lv_topi (fun x_79 ex_79 => ?_)
                                have tx_79 : x_79.toInt = x_78.toInt + fr.toInt := v_add ex_79 (by show -2147483648 ≤ x_78.toInt + fr.toInt; omega) (by show x_78.toInt + fr.toInt < 2147483648; omega)
                                refine lv_iload hx hb dX12_span_127 (lv_at hl 1 rfl) ?_
                                refine lv_iadd hx hb dX12_span_129 ?_
                                refine lv_topi (fun x_80 ex_80 => ?_)
                                have tx_80 : x_80.toInt = x_79.toInt + k.toInt := v_add ex_80 (by show -2147483648 ≤ x_79.toInt + k.toInt; omega) (by show x_79.toInt + k.toInt < 2147483648; omega)
                                refine va_iald hx hb hK hP 1 0 rfl rfl (v_in (by omega)) dX12_span_130 ?_
                                refine lv_topi (fun x_81 ex_81 => ?_)
                                have tx_81 : -1 ≤ x_81.toInt ∧ x_81.toInt ≤ 65535 := rg_at g_eL ex_81
                                refine lv_iconst (v := (-1)) hx hb dX12_span_131 (by decide) ?_
                                refine lv_icmp_ne (tgt := 152) hx hb dX12_span_132 (by decide) (fun c_82 => ?_) (fun c_82 => ?_)
                                · have tc_82 : ¬ x_81.toInt = (-1) := v_ne c_82
                                  refine lv_iconst (v := (-1)) hx hb dX12_span_152 (by decide) ?_
                                  exact kl_i (v := (-1)) hQQ hx hb hr hlocks hS dX12_span_153 ⟨0, (-1), eL, eB, eD, zs, ⟨hP, hD⟩, g_eL, g_eB, g_zs, by show zs.toInt ≤ zs.toInt + 1 ∧ zs.toInt ≤ zs.toInt; omega, Or.inr ⟨rfl, rfl, rfl, rfl, spanR_no (by omega) ex_74 ex_75 (by omega) (by omega) (fun z => c_82 (by rw [ex_81, ix_eq (x := x_80) (N := 256 * (cd.toInt - 4).toNat + (fr.toInt + k.toInt).toNat) (by omega)]; exact z.2.1))⟩, Or.inr ⟨fun ⟨t9, z1, z2, z3⟩ => (spanR_no (by omega) ex_74 ex_75 (by omega) (by omega) (fun z => c_82 (by rw [ex_81, ix_eq (x := x_80) (N := 256 * (cd.toInt - 4).toNat + (fr.toInt + k.toInt).toNat) (by omega)]; exact z.2.1))) t9 z1 z2 z3, rfl⟩⟩
                                · have tc_82 : x_81.toInt = (-1) := v_eq c_82
                                  refine lv_aload_n hx hb dX12_span_135 rfl (lv_at hl 3 rfl) ?_
                                  refine va_get (D := (dC, dI)) (ci := 12) (v := .ref mB) (C := RX12) (T := TX12) (N := 40) hx hb hts in_X12 hown hK hP 0 rfl rfl 7 (by decide) (hts (.fieldLink RX12 23 "TextMenderModel" "byteOfLetter" "[S") (List.mem_of_getElem? (i := 4) rfl)) (fun _ h9 => h9) rfl dX12_span_136 ?_
                                  refine lv_ldc hx hb hown (hts (.constant RX12 88 (65536)) (List.mem_of_getElem? (i := 5) rfl)) dX12_span_139 ?_
                                  refine lv_iload hx hb dX12_span_141 (lv_at hl 2 rfl) ?_
                                  refine lv_imul hx hb dX12_span_143 ?_
                                  refine lv_topi (fun x_83 ex_83 => ?_)
                                  have tx_83 : x_83.toInt = 65536 * x_50.toInt := v_mul ex_83 (by show -2147483648 ≤ 65536 * x_50.toInt; omega) (by show 65536 * x_50.toInt < 2147483648; omega)
                                  refine lv_iload hx hb dX12_span_144 (lv_at hl 0 rfl) ?_
                                  refine lv_iadd hx hb dX12_span_146 ?_
                                  refine lv_topi (fun x_84 ex_84 => ?_)
                                  have tx_84 : x_84.toInt = x_83.toInt + x_75.toInt := v_add ex_84 (by show -2147483648 ≤ x_83.toInt + x_75.toInt; omega) (by show x_83.toInt + x_75.toInt < 2147483648; omega)
                                  refine va_sald hx hb hK hP 2 1 rfl rfl (v_in (by omega)) dX12_span_147 ?_
                                  refine lv_topi (fun x_85 ex_85 => ?_)
                                  have tx_85 : -1 ≤ x_85.toInt ∧ x_85.toInt ≤ 255 := rg_at g_eB ex_85
                                  refine lv_iconst (v := (-1)) hx hb dX12_span_148 (by decide) ?_
                                  refine lv_icmp_eq (tgt := 154) hx hb dX12_span_149 (by decide) (fun c_86 => ?_) (fun c_86 => ?_)
                                  · have tc_86 : x_85.toInt = (-1) := v_eq c_86
                                    obtain ⟨x_87, ex_87⟩ : ∃ y : Int32, y = k + 1 := ⟨_, rfl⟩
                                    have tx_87 : x_87.toInt = k.toInt + 1 := v_addR (l2 := 1) (h2 := 1) ex_87 g_k (by decide) (by decide) (by decide)
                                    refine lv_iinc (v := x_87) (lv' := [(7, .int x_87), (8, .int x_75), (6, .int x_50), (0, .ref oM), (1, .int cd), (2, .int fr), (3, .int n), (4, .int le), (5, .int sp)]) hx hb dX12_span_154 hl (k := 1) rfl (by rw [ex_87]; rfl) (by decide) rfl (fun ls hl => ?_)
                                    refine lv_goto (tgt := 91) hx hb dX12_span_157 (by decide) ?_
                                    exact ih_91 x_87 _ _ _ (ms_lt hm_91 (by show ((256 - x_87.toInt : Int)) < 256 - k.toInt; omega) (by show (0 : Int) < 256 - k.toInt; omega)) (by show 0 ≤ x_87.toInt ∧ x_87.toInt ≤ 256; omega) (CTk_s hct ex_74 ex_75 (by omega) (by unfold isLz; omega) (by unfold pL; rw [← ix_eq (x := x_80) (N := 256 * (cd.toInt - 4).toNat + (fr.toInt + k.toInt).toNat) (by omega), ← ex_81]; exact c_82) (by unfold pB; have c9 := v_clamp (x := x_75) (by omega); rw [← ix_eq (x := x_84) (N := 65536 * (cd.toInt - 4).toNat + x_75.toNatClampNeg) (by omega), ← ex_85]; exact c_86)) hP hD hS (lv_sub hl [0, 2, 3, 4, 5, 6, 7, 8] rfl)
                                  · have tc_86 : ¬ x_85.toInt = (-1) := v_ne c_86
                                    refine lv_iconst (v := (-1)) hx hb dX12_span_152 (by decide) ?_
                                    exact kl_i (v := (-1)) hQQ hx hb hr hlocks hS dX12_span_153 ⟨0, (-1), eL, eB, eD, zs, ⟨hP, hD⟩, g_eL, g_eB, g_zs, by show zs.toInt ≤ zs.toInt + 1 ∧ zs.toInt ≤ zs.toInt; omega, Or.inr ⟨rfl, rfl, rfl, rfl, spanR_no (by omega) ex_74 ex_75 (by omega) (by omega) (fun z => c_86 (by have c9 := v_clamp (x := x_75) (by omega); rw [ex_85, ix_eq (x := x_84) (N := 65536 * (cd.toInt - 4).toNat + x_75.toNatClampNeg) (by omega)]; exact z.2.2))⟩, Or.inr ⟨fun ⟨t9, z1, z2, z3⟩ => (spanR_no (by omega) ex_74 ex_75 (by omega) (by omega) (fun z => c_86 (by have c9 := v_clamp (x := x_75) (by omega); rw [ex_85, ix_eq (x := x_84) (N := 65536 * (cd.toInt - 4).toNat + x_75.toNatClampNeg) (by omega)]; exact z.2.2))) t9 z1 z2 z3, rfl⟩⟩
                        exact LOOP_91 _ 0 _ _ _ (ms_s _) (by decide) (CTk_0 (by decide)) hP hD hS (lv_sub hl [0, 1, 2, 3, 4, 5, 6, 7] rfl)
                      · have tc_52 : r_51.toInt = 0 := v_eq c_52
                        refine lv_iconst (v := (-1)) hx hb dX12_span_86 (by decide) ?_
                        exact kl_i (v := (-1)) hQQ hx hb hr hlocks hS dX12_span_87 ⟨0, (-1), eL, eB, eD, zs, ⟨hP, hD⟩, g_eL, g_eB, g_zs, by show zs.toInt ≤ zs.toInt + 1 ∧ zs.toInt ≤ zs.toInt; omega, Or.inr ⟨rfl, rfl, rfl, rfl, fun t h1 h2 c => by have c1 := c.1; unfold isLz at c1; omega⟩, Or.inr ⟨fun ⟨t9, z1, z2, z3⟩ => (fun t h1 h2 c => by have c1 := c.1; unfold isLz at c1; omega) t9 z1 z2 z3, rfl⟩⟩
                    · have tc_49 : sp.toInt = 0 := v_eq c_49
                      refine lv_iconst (v := (-1)) hx hb dX12_span_71 (by decide) ?_
                      exact kl_i (v := (-1)) hQQ hx hb hr hlocks hS dX12_span_72 ⟨0, (-1), eL, eB, eD, zs, ⟨hP, hD⟩, g_eL, g_eB, g_zs, by show zs.toInt ≤ zs.toInt + 1 ∧ zs.toInt ≤ zs.toInt; omega, Or.inr ⟨rfl, rfl, rfl, rfl, fun t h1 h2 c => by have c1 := c.1; unfold isLz at c1; omega⟩, Or.inr ⟨fun ⟨t9, z1, z2, z3⟩ => (fun t h1 h2 c => by have c1 := c.1; unfold isLz at c1; omega) t9 z1 z2 z3, rfl⟩⟩

set_option maxHeartbeats 40000000 in
set_option maxRecDepth 100000 in
theorem f_X12_blank (l : Launch) (dC : Nat → ClassId) (dI : Nat → Nat → Nat) (cI cS : ClassId) (sz : Nat) (oM : Nat) (mT : Nat) (mS : Nat) (mX : Nat) (mL : Nat) (mB : Nat) (mD : Nat) (m1 : Nat) (m2 : Nat) (mR : Nat) (x1 : Nat) (x2 : Nat) (x3 : Nat) (mH : Nat) (mY : Nat) (mE : Nat) (mW : Nat) (mO : Nat) (y1 : Nat) (y2 : Nat) (y3 : Nat) (y4 : Nat) (mZ : Nat) (zt : Int32) (zp : Int32) (zf : Int32) (zh : Int32) (zr : Int32) (zc : Int32) (zy : Int32) (za : Int32) (zb : Int32) (zs : Int32) (zq : Int32) (zw : Int32) (ze : Int32) (zn : Int32) (zm : Int32) (zl : Int32) (zk : Int32) (zd : Int32) (eL : Nat → Int32) (eB : Nat → Int32) (eD : Nat → Int32) (cd : Int32) (g_zt : 0 ≤ zt.toInt ∧ zt.toInt ≤ 900) (g_zp : 0 ≤ zp.toInt ∧ zp.toInt ≤ 20) (g_zf : 0 ≤ zf.toInt ∧ zf.toInt ≤ 19) (g_zh : 0 ≤ zh.toInt ∧ zh.toInt ≤ 6) (g_zr : 0 ≤ zr.toInt ∧ zr.toInt ≤ 258) (g_zc : 0 ≤ zc.toInt ∧ zc.toInt ≤ 300) (g_zy : 0 ≤ zy.toInt ∧ zy.toInt ≤ 65536) (g_za : 0 ≤ za.toInt ∧ za.toInt ≤ 5) (g_zb : 0 ≤ zb.toInt ∧ zb.toInt ≤ 5) (g_zs : 0 ≤ zs.toInt ∧ zs.toInt ≤ 2000000) (g_zq : -1 ≤ zq.toInt ∧ zq.toInt ≤ 2000000) (g_zn : 0 ≤ zn.toInt ∧ zn.toInt ≤ 2600) (g_zm : 0 ≤ zm.toInt ∧ zm.toInt ≤ 2600) (g_zk : 0 ≤ zk.toInt ∧ zk.toInt ≤ 300) (g_eL : rg (-1) 65535 eL) (g_eB : rg (-1) 255 eB) (hzs : zs.toInt ≤ 1000000) : kMi l yX12_blank wsX12_blank ({ frames := 0, cells := 0, slots := 0, locals := 0 } : Room) [.ref oM, .int cd] sz (dC, dI) vwCl [(cI, .int), (cS, .short)] [(oM, .inr (12, [.ref mT, .int zt, .ref mS, .ref mX, .int zp, .int zf, .ref mL, .ref mB, .ref mD, .ref m1, .ref m2, .int zh, .ref mR, .int zr, .ref x1, .ref x2, .ref x3, .int zc, .ref mH, .int zy, .int za, .int zb, .int zs, .int zq, .int zw, .int ze, .ref mY, .int zn, .ref mE, .int zm, .int zl, .ref mW, .int zk, .ref mO, .int zd, .ref y1, .ref y2, .ref y3, .ref y4, .ref mZ])), (mL, .inl (cI, 512, .inl eL)), (mB, .inl (cS, 131072, .inl eB)), (mD, .inl (cI, 2, .inl eD))] (fun _ => True) 0 0 (fun (A : Nat → Prop) (r : Int32) (hh9 : Heap) => ∃ (ze' : Int32) (eL' : Nat → Int32) (eB' : Nat → Int32) (eD' : Nat → Int32) (zs' : Int32), kPD (dC, dI) vwCl A [(oM, .inr (12, [.ref mT, .int zt, .ref mS, .ref mX, .int zp, .int zf, .ref mL, .ref mB, .ref mD, .ref m1, .ref m2, .int zh, .ref mR, .int zr, .ref x1, .ref x2, .ref x3, .int zc, .ref mH, .int zy, .int za, .int zb, .int zs', .int zq, .int zw, .int ze', .ref mY, .int zn, .ref mE, .int zm, .int zl, .ref mW, .int zk, .ref mO, .int zd, .ref y1, .ref y2, .ref y3, .ref y4, .ref mZ])), (mL, .inl (cI, 512, .inl eL')), (mB, .inl (cS, 131072, .inl eB')), (mD, .inl (cI, 2, .inl eD'))] hh9 ∧ (rg (-1) 65535 eL') ∧ (rg (-1) 255 eB') ∧ (0 ≤ zs'.toInt ∧ zs'.toInt ≤ 2000000) ∧ ((r.toInt = 1 ∧ (cd.toInt = 4 ∨ cd.toInt = 5)) ∨ (r.toInt = 0 ∧ ¬ cd.toInt = 4 ∧ ¬ cd.toInt = 5)) ∧ (zs'.toInt ≤ zs.toInt + 1 ∧ zs.toInt ≤ zs'.toInt) ∧ (F_blankR cd eL eL' eB eB' eD eD') ∧ (F_zs (0) r zs zs')) := by
  refine kMi_of (cc := cX12_blank) (maxL := 4) (ret := (some .boolean)) (lv := [(0, .ref oM), (1, .int cd)]) (by decide +kernel) rfl rfl (Nat.le_of_ble_eq_true rfl) ?_
  intro p e s m below meth c A QQ ls hx hb hr hts hml hown hlocks hA hQQ hK hX hP hD hS hl
  have hown : s.vm.findClass RX12 = some m.cls := hown
  have hcf := k_cf hx hb hml hown hts
  have in_X12 : ∀ w ∈ wsX120, w ∈ wsX12_blank := fun _ h => List.mem_cons_of_mem _ (List.mem_append_right _ (h))
  refine lv_aload_n hx hb dX12_blank_0 rfl (lv_at hl 0 rfl) ?_
  refine lv_iconst (v := 0) hx hb dX12_blank_1 (by decide) ?_
  refine va_put (D := (dC, dI)) (ci := 12) (v := .int 0) (ty := .int) (C := RX12) (T := TX12) (N := 40) hx hb hts in_X12 tyX12 tyX12_ok nmX12 hown hK hP hD hS 0 rfl rfl 25 (by decide) (hts (.fieldLink RX12 85 "TextMenderModel" "thrown" "I") (List.mem_of_getElem? (i := 1) rfl)) (fun _ h9 => h9) rfl (by decide +kernel) rfl rfl (Nat.le_of_ble_eq_true rfl) dX12_blank_2 (kW (wn := [(oM, .inr (12, [.ref mT, .int zt, .ref mS, .ref mX, .int zp, .int zf, .ref mL, .ref mB, .ref mD, .ref m1, .ref m2, .int zh, .ref mR, .int zr, .ref x1, .ref x2, .ref x3, .int zc, .ref mH, .int zy, .int za, .int zb, .int zs, .int zq, .int zw, .int 0, .ref mY, .int zn, .ref mE, .int zm, .int zl, .ref mW, .int zk, .ref mO, .int zd, .ref y1, .ref y2, .ref y3, .ref y4, .ref mZ])), (mL, .inl (cI, 512, .inl eL)), (mB, .inl (cS, 131072, .inl eB)), (mD, .inl (cI, 2, .inl eD))]) rfl (fun H locs hPn hDn hSn => ?_))
  clear hP hD hS
  have hP := hPn
  have hD := hDn
  have hS := hSn
  clear hPn hDn hSn
  refine lv_iload_n hx hb dX12_blank_5 rfl (lv_at hl 1 rfl) ?_
  refine lv_iconst (v := 4) hx hb dX12_blank_6 (by decide) ?_
  refine lv_icmp_lt (tgt := 15) hx hb dX12_blank_7 (by decide) (fun c_1 => ?_) (fun c_1 => ?_)
  · have tc_1 : cd.toInt < 4 := v_lt c_1
    refine lv_iconst (v := 0) hx hb dX12_blank_15 (by decide) ?_
    exact kl_z (v := 0) hQQ hx hb hr hlocks hS dX12_blank_16 (rfl) ⟨0, eL, eB, eD, zs, ⟨hP, hD⟩, g_eL, g_eB, g_zs, by show (0 = 1 ∧ (cd.toInt = 4 ∨ cd.toInt = 5)) ∨ (0 = 0 ∧ ¬ cd.toInt = 4 ∧ ¬ cd.toInt = 5); omega, by show zs.toInt ≤ zs.toInt + 1 ∧ zs.toInt ≤ zs.toInt; omega, Or.inr ⟨by omega, by omega, rfl, rfl, rfl⟩, by first | exact Or.inl ⟨by first | rfl | omega, rfl⟩ | exact Or.inr ⟨by first | decide | omega, by omega⟩⟩
  · have tc_1 : 4 ≤ cd.toInt := v_nlt c_1
    refine lv_iload_n hx hb dX12_blank_10 rfl (lv_at hl 1 rfl) ?_
    refine lv_iconst (v := 5) hx hb dX12_blank_11 (by decide) ?_
    refine lv_icmp_le (tgt := 17) hx hb dX12_blank_12 (by decide) (fun c_2 => ?_) (fun c_2 => ?_)
    · have tc_2 : cd.toInt ≤ 5 := v_le c_2
      refine lv_iload_n hx hb dX12_blank_17 rfl (lv_at hl 1 rfl) ?_
      refine lv_iconst (v := 4) hx hb dX12_blank_18 (by decide) ?_
      refine lv_isub hx hb dX12_blank_19 ?_
      refine lv_topi (fun x_3 ex_3 => ?_)
      have tx_3 : x_3.toInt = cd.toInt - 4 := v_sub ex_3 (by show -2147483648 ≤ cd.toInt - 4; omega) (by show cd.toInt - 4 < 2147483648; omega)
      refine lv_istore_n (lv' := [(2, .int x_3), (0, .ref oM), (1, .int cd)]) hx hb dX12_blank_20 rfl hl (by decide) rfl (fun ls hl => ?_)
      refine lv_iconst (v := 0) hx hb dX12_blank_21 (by decide) ?_
      refine lv_istore_n (lv' := [(3, .int 0), (2, .int x_3), (0, .ref oM), (1, .int cd)]) hx hb dX12_blank_22 rfl hl (by decide) rfl (fun ls hl => ?_)
      have LOOP_23 : ∀ (k_23 : Nat) (k : Int32) (eLa : Nat → Int32) (H : Heap) (locs : List Loc) (ls : Array Slot), MSd (256 - k.toInt : Int) k_23 → (0 ≤ k.toInt ∧ k.toInt ≤ 256) → (rg (-1) 65535 eLa) → (FB (256 * x_3.toInt) k.toInt eL eLa) → va_P (dC, dI) vwCl [(oM, .inr (12, [.ref mT, .int zt, .ref mS, .ref mX, .int zp, .int zf, .ref mL, .ref mB, .ref mD, .ref m1, .ref m2, .int zh, .ref mR, .int zr, .ref x1, .ref x2, .ref x3, .int zc, .ref mH, .int zy, .int za, .int zb, .int zs, .int zq, .int zw, .int 0, .ref mY, .int zn, .ref mE, .int zm, .int zl, .ref mW, .int zk, .ref mO, .int zd, .ref y1, .ref y2, .ref y3, .ref y4, .ref mZ])), (mL, .inl (cI, 512, .inl eLa)), (mB, .inl (cS, 131072, .inl eB)), (mD, .inl (cI, 2, .inl eD))] H → va_D A [(oM, .inr (12, [.ref mT, .int zt, .ref mS, .ref mX, .int zp, .int zf, .ref mL, .ref mB, .ref mD, .ref m1, .ref m2, .int zh, .ref mR, .int zr, .ref x1, .ref x2, .ref x3, .int zc, .ref mH, .int zy, .int za, .int zb, .int zs, .int zq, .int zw, .int 0, .ref mY, .int zn, .ref mE, .int zm, .int zl, .ref mW, .int zk, .ref mO, .int zd, .ref y1, .ref y2, .ref y3, .ref y4, .ref mZ])), (mL, .inl (cI, 512, .inl eLa)), (mB, .inl (cS, 131072, .inl eB)), (mD, .inl (cI, 2, .inl eD))] → va_S A s.heap H locs → lv_has ls 4 [(3, .int k), (2, .int x_3), (0, .ref oM), (1, .int cd)] → W p l e (headSpec wsX12_blank ({ frames := 0, cells := 0, slots := 0, locals := 0 } : Room)).room s m ([.ref oM, .int cd] : List Value).toArray below meth c H locs 0 0 (MQ below QQ ([.ref oM, .int cd] : List Value).toArray s 0 0 A) (F0 m 23 ls []) := by
        clear hP hD hS hl
        intro k_23
        induction k_23 with
        | zero =>
          intro k eLa H locs ls hm_23 g_k g_eLa hfL hP hD hS hl
          exact ms_0 hm_23
        | succ k_23 ih_23 =>
          intro k eLa H locs ls hm_23 g_k g_eLa hfL hP hD hS hl
          refine lv_iload_n hx hb dX12_blank_23 rfl (lv_at hl 0 rfl) ?_
          refine lv_sipush (v := 256) hx hb dX12_blank_24 (by decide) ?_
          refine lv_icmp_ge (tgt := 49) hx hb dX12_blank_27 (by decide) (fun c_4 => ?_) (fun c_4 => ?_)
          · have tc_4 : 256 ≤ k.toInt := v_le c_4
            refine lv_iconst (v := 0) hx hb dX12_blank_49 (by decide) ?_
            refine lv_istore_n (lv' := [(3, .int 0), (2, .int x_3), (0, .ref oM), (1, .int cd)]) hx hb dX12_blank_50 rfl hl (by decide) rfl (fun ls hl => ?_)
            have LOOP_51 : ∀ (k_51 : Nat) (k2 : Int32) (eBa : Nat → Int32) (H : Heap) (locs : List Loc) (ls : Array Slot), MSd (65536 - k2.toInt : Int) k_51 → (0 ≤ k2.toInt ∧ k2.toInt ≤ 65536) → (rg (-1) 255 eBa) → (FB (65536 * x_3.toInt) k2.toInt eB eBa) → va_P (dC, dI) vwCl [(oM, .inr (12, [.ref mT, .int zt, .ref mS, .ref mX, .int zp, .int zf, .ref mL, .ref mB, .ref mD, .ref m1, .ref m2, .int zh, .ref mR, .int zr, .ref x1, .ref x2, .ref x3, .int zc, .ref mH, .int zy, .int za, .int zb, .int zs, .int zq, .int zw, .int 0, .ref mY, .int zn, .ref mE, .int zm, .int zl, .ref mW, .int zk, .ref mO, .int zd, .ref y1, .ref y2, .ref y3, .ref y4, .ref mZ])), (mL, .inl (cI, 512, .inl eLa)), (mB, .inl (cS, 131072, .inl eBa)), (mD, .inl (cI, 2, .inl eD))] H → va_D A [(oM, .inr (12, [.ref mT, .int zt, .ref mS, .ref mX, .int zp, .int zf, .ref mL, .ref mB, .ref mD, .ref m1, .ref m2, .int zh, .ref mR, .int zr, .ref x1, .ref x2, .ref x3, .int zc, .ref mH, .int zy, .int za, .int zb, .int zs, .int zq, .int zw, .int 0, .ref mY, .int zn, .ref mE, .int zm, .int zl, .ref mW, .int zk, .ref mO, .int zd, .ref y1, .ref y2, .ref y3, .ref y4, .ref mZ])), (mL, .inl (cI, 512, .inl eLa)), (mB, .inl (cS, 131072, .inl eBa)), (mD, .inl (cI, 2, .inl eD))] → va_S A s.heap H locs → lv_has ls 4 [(3, .int k2), (2, .int x_3), (0, .ref oM), (1, .int cd)] → W p l e (headSpec wsX12_blank ({ frames := 0, cells := 0, slots := 0, locals := 0 } : Room)).room s m ([.ref oM, .int cd] : List Value).toArray below meth c H locs 0 0 (MQ below QQ ([.ref oM, .int cd] : List Value).toArray s 0 0 A) (F0 m 51 ls []) := by
              clear hP hD hS hl
              intro k_51
              induction k_51 with
              | zero =>
                intro k2 eBa H locs ls hm_51 g_k2 g_eBa hfB hP hD hS hl
                exact ms_0 hm_51
              | succ k_51 ih_51 =>
                intro k2 eBa H locs ls hm_51 g_k2 g_eBa hfB hP hD hS hl
                refine lv_iload_n hx hb dX12_blank_51 rfl (lv_at hl 0 rfl) ?_
                refine lv_ldc hx hb hown (hts (.constant RX12 88 (65536)) (List.mem_of_getElem? (i := 3) rfl)) dX12_blank_52 ?_
                refine lv_icmp_ge (tgt := 75) hx hb dX12_blank_54 (by decide) (fun c_5 => ?_) (fun c_5 => ?_)
                · have tc_5 : 65536 ≤ k2.toInt := v_le c_5
                  refine lv_aload_n hx hb dX12_blank_75 rfl (lv_at hl 2 rfl) ?_
                  refine va_get (D := (dC, dI)) (ci := 12) (v := .ref mD) (C := RX12) (T := TX12) (N := 40) hx hb hts in_X12 hown hK hP 0 rfl rfl 8 (by decide) (hts (.fieldLink RX12 27 "TextMenderModel" "told" "[I") (List.mem_of_getElem? (i := 5) rfl)) (fun _ h9 => h9) rfl dX12_blank_76 ?_
                  refine lv_iload_n hx hb dX12_blank_79 rfl (lv_at hl 1 rfl) ?_
                  refine lv_iconst (v := 0) hx hb dX12_blank_80 (by decide) ?_
                  obtain ⟨f_6, ef_6⟩ : ∃ g : Nat → Int32, g = upd eD (x_3 : Int32).toNatClampNeg 0 := ⟨_, rfl⟩
                  refine va_iast hx hb hK hP hD hS 3 0 rfl rfl (v_in (by omega)) dX12_blank_81 (kWf (g := f_6) (F := fun f_6 => [(oM, .inr (12, [.ref mT, .int zt, .ref mS, .ref mX, .int zp, .int zf, .ref mL, .ref mB, .ref mD, .ref m1, .ref m2, .int zh, .ref mR, .int zr, .ref x1, .ref x2, .ref x3, .int zc, .ref mH, .int zy, .int za, .int zb, .int zs, .int zq, .int zw, .int 0, .ref mY, .int zn, .ref mE, .int zm, .int zl, .ref mW, .int zk, .ref mO, .int zd, .ref y1, .ref y2, .ref y3, .ref y4, .ref mZ])), (mL, .inl (cI, 512, .inl eLa)), (mB, .inl (cS, 131072, .inl eBa)), (mD, .inl (cI, 2, .inl f_6))]) ef_6 rfl (fun H locs hPn hDn hSn => ?_))
                  clear hP hD hS
                  have hP := hPn
                  have hD := hDn
                  have hS := hSn
                  clear hPn hDn hSn
                  refine lv_aload_n hx hb dX12_blank_82 rfl (lv_at hl 2 rfl) ?_
                  refine lv_dup hx hb dX12_blank_83 rfl ?_
                  refine va_get (D := (dC, dI)) (ci := 12) (v := .int zs) (C := RX12) (T := TX12) (N := 40) hx hb hts in_X12 hown hK hP 0 rfl rfl 22 (by decide) (hts (.fieldLink RX12 148 "TextMenderModel" "state" "I") (List.mem_of_getElem? (i := 6) rfl)) (fun _ h9 => h9) rfl dX12_blank_84 ?_
                  refine lv_iconst (v := 1) hx hb dX12_blank_87 (by decide) ?_
                  refine lv_iadd hx hb dX12_blank_88 ?_
                  refine lv_topi (fun x_7 ex_7 => ?_)
                  have tx_7 : x_7.toInt = zs.toInt + 1 := v_addR (l2 := 1) (h2 := 1) ex_7 g_zs (by decide) (by decide) (by decide)
                  refine va_put (D := (dC, dI)) (ci := 12) (v := .int x_7) (ty := .int) (C := RX12) (T := TX12) (N := 40) hx hb hts in_X12 tyX12 tyX12_ok nmX12 hown hK hP hD hS 0 rfl rfl 22 (by decide) (hts (.fieldLink RX12 148 "TextMenderModel" "state" "I") (List.mem_of_getElem? (i := 6) rfl)) (fun _ h9 => h9) rfl (by decide +kernel) rfl rfl (Nat.le_of_ble_eq_true rfl) dX12_blank_89 (kW (wn := [(oM, .inr (12, [.ref mT, .int zt, .ref mS, .ref mX, .int zp, .int zf, .ref mL, .ref mB, .ref mD, .ref m1, .ref m2, .int zh, .ref mR, .int zr, .ref x1, .ref x2, .ref x3, .int zc, .ref mH, .int zy, .int za, .int zb, .int x_7, .int zq, .int zw, .int 0, .ref mY, .int zn, .ref mE, .int zm, .int zl, .ref mW, .int zk, .ref mO, .int zd, .ref y1, .ref y2, .ref y3, .ref y4, .ref mZ])), (mL, .inl (cI, 512, .inl eLa)), (mB, .inl (cS, 131072, .inl eBa)), (mD, .inl (cI, 2, .inl f_6))]) rfl (fun H locs hPn hDn hSn => ?_))
                  clear hP hD hS
                  have hP := hPn
                  have hD := hDn
                  have hS := hSn
                  clear hPn hDn hSn
                  refine lv_iconst (v := 1) hx hb dX12_blank_92 (by decide) ?_
                  exact kl_z (v := 1) hQQ hx hb hr hlocks hS dX12_blank_93 (rfl) ⟨0, eLa, eBa, f_6, x_7, ⟨hP, hD⟩, g_eLa, g_eBa, by omega, by show (1 = 1 ∧ (cd.toInt = 4 ∨ cd.toInt = 5)) ∨ (1 = 0 ∧ ¬ cd.toInt = 4 ∧ ¬ cd.toInt = 5); omega, by show x_7.toInt ≤ zs.toInt + 1 ∧ zs.toInt ≤ x_7.toInt; omega, blankR_of (t2 := x_3) (by omega) (by omega) (by omega) (FB_n hfL (by omega)) (FB_n hfB (by omega)) ef_6, by first | exact Or.inl ⟨by first | rfl | omega, rfl⟩ | exact Or.inr ⟨by first | decide | omega, by omega⟩⟩
                · have tc_5 : k2.toInt < 65536 := v_nle c_5
                  refine lv_aload_n hx hb dX12_blank_57 rfl (lv_at hl 2 rfl) ?_
                  refine va_get (D := (dC, dI)) (ci := 12) (v := .ref mB) (C := RX12) (T := TX12) (N := 40) hx hb hts in_X12 hown hK hP 0 rfl rfl 7 (by decide) (hts (.fieldLink RX12 23 "TextMenderModel" "byteOfLetter" "[S") (List.mem_of_getElem? (i := 4) rfl)) (fun _ h9 => h9) rfl dX12_blank_58 ?_
                  refine lv_ldc hx hb hown (hts (.constant RX12 88 (65536)) (List.mem_of_getElem? (i := 3) rfl)) dX12_blank_61 ?_
                  refine lv_iload_n hx hb dX12_blank_63 rfl (lv_at hl 1 rfl) ?_
                  refine lv_imul hx hb dX12_blank_64 ?_
                  refine lv_topi (fun x_8 ex_8 => ?_)
                  have tx_8 : x_8.toInt = 65536 * x_3.toInt := v_mul ex_8 (by show -2147483648 ≤ 65536 * x_3.toInt; omega) (by show 65536 * x_3.toInt < 2147483648; omega)
                  refine lv_iload_n hx hb dX12_blank_65 rfl (lv_at hl 0 rfl) ?_
                  refine lv_iadd hx hb dX12_blank_66 ?_
                  refine lv_topi (fun x_9 ex_9 => ?_)
                  have tx_9 : x_9.toInt = x_8.toInt + k2.toInt := v_add ex_9 (by show -2147483648 ≤ x_8.toInt + k2.toInt; omega) (by show x_8.toInt + k2.toInt < 2147483648; omega)
                  refine lv_iconst (v := (-1)) hx hb dX12_blank_67 (by decide) ?_
                  obtain ⟨f_10, ef_10⟩ : ∃ g : Nat → Int32, g = upd eBa (x_9 : Int32).toNatClampNeg (vp_nar .short (-1)) := ⟨_, rfl⟩
                  refine va_sast hx hb hK hP hD hS 2 1 rfl rfl (v_in (by omega)) dX12_blank_68 (kWf (g := f_10) (F := fun f_10 => [(oM, .inr (12, [.ref mT, .int zt, .ref mS, .ref mX, .int zp, .int zf, .ref mL, .ref mB, .ref mD, .ref m1, .ref m2, .int zh, .ref mR, .int zr, .ref x1, .ref x2, .ref x3, .int zc, .ref mH, .int zy, .int za, .int zb, .int zs, .int zq, .int zw, .int 0, .ref mY, .int zn, .ref mE, .int zm, .int zl, .ref mW, .int zk, .ref mO, .int zd, .ref y1, .ref y2, .ref y3, .ref y4, .ref mZ])), (mL, .inl (cI, 512, .inl eLa)), (mB, .inl (cS, 131072, .inl f_10)), (mD, .inl (cI, 2, .inl eD))]) ef_10 rfl (fun H locs hPn hDn hSn => ?_))
                  clear hP hD hS
                  have hP := hPn
                  have hD := hDn
                  have hS := hSn
                  clear hPn hDn hSn
                  have g_f10 : rg (-1) 255 f_10 := rg_upd ef_10 g_eBa (by decide)
                  obtain ⟨x_11, ex_11⟩ : ∃ y : Int32, y = k2 + 1 := ⟨_, rfl⟩
                  have tx_11 : x_11.toInt = k2.toInt + 1 := v_addR (l2 := 1) (h2 := 1) ex_11 g_k2 (by decide) (by decide) (by decide)
                  refine lv_iinc (v := x_11) (lv' := [(3, .int x_11), (2, .int x_3), (0, .ref oM), (1, .int cd)]) hx hb dX12_blank_69 hl (k := 0) rfl (by rw [ex_11]; rfl) (by decide) rfl (fun ls hl => ?_)
                  refine lv_goto (tgt := 51) hx hb dX12_blank_72 (by decide) ?_
                  exact ih_51 x_11 f_10 _ _ _ (ms_lt hm_51 (by show ((65536 - x_11.toInt : Int)) < 65536 - k2.toInt; omega) (by show (0 : Int) < 65536 - k2.toInt; omega)) (by show 0 ≤ x_11.toInt ∧ x_11.toInt ≤ 65536; omega) (g_f10) (FB_s hfB (by omega) (by omega) (a := x_9) (by omega) ef_10 (by decide) (by omega)) hP hD hS (lv_sub hl [0, 1, 2, 3] rfl)
            exact LOOP_51 _ 0 eB _ _ _ (ms_s _) (by decide) (g_eB) (FB_0 (by decide)) hP hD hS (lv_sub hl [0, 1, 2, 3] rfl)
          · have tc_4 : k.toInt < 256 := v_nle c_4
            refine lv_aload_n hx hb dX12_blank_30 rfl (lv_at hl 2 rfl) ?_
            refine va_get (D := (dC, dI)) (ci := 12) (v := .ref mL) (C := RX12) (T := TX12) (N := 40) hx hb hts in_X12 hown hK hP 0 rfl rfl 6 (by decide) (hts (.fieldLink RX12 19 "TextMenderModel" "letterOf" "[I") (List.mem_of_getElem? (i := 2) rfl)) (fun _ h9 => h9) rfl dX12_blank_31 ?_
            refine lv_sipush (v := 256) hx hb dX12_blank_34 (by decide) ?_
            refine lv_iload_n hx hb dX12_blank_37 rfl (lv_at hl 1 rfl) ?_
            refine lv_imul hx hb dX12_blank_38 ?_
            refine lv_topi (fun x_12 ex_12 => ?_)
            have tx_12 : x_12.toInt = 256 * x_3.toInt := v_mul ex_12 (by show -2147483648 ≤ 256 * x_3.toInt; omega) (by show 256 * x_3.toInt < 2147483648; omega)
            refine lv_iload_n hx hb dX12_blank_39 rfl (lv_at hl 0 rfl) ?_
            refine lv_iadd hx hb dX12_blank_40 ?_
            refine lv_topi (fun x_13 ex_13 => ?_)
            have tx_13 : x_13.toInt = x_12.toInt + k.toInt := v_add ex_13 (by show -2147483648 ≤ x_12.toInt + k.toInt; omega) (by show x_12.toInt + k.toInt < 2147483648; omega)
            refine lv_iconst (v := (-1)) hx hb dX12_blank_41 (by decide) ?_
            obtain ⟨f_14, ef_14⟩ : ∃ g : Nat → Int32, g = upd eLa (x_13 : Int32).toNatClampNeg (-1) := ⟨_, rfl⟩
            refine va_iast hx hb hK hP hD hS 1 0 rfl rfl (v_in (by omega)) dX12_blank_42 (kWf (g := f_14) (F := fun f_14 => [(oM, .inr (12, [.ref mT, .int zt, .ref mS, .ref mX, .int zp, .int zf, .ref mL, .ref mB, .ref mD, .ref m1, .ref m2, .int zh, .ref mR, .int zr, .ref x1, .ref x2, .ref x3, .int zc, .ref mH, .int zy, .int za, .int zb, .int zs, .int zq, .int zw, .int 0, .ref mY, .int zn, .ref mE, .int zm, .int zl, .ref mW, .int zk, .ref mO, .int zd, .ref y1, .ref y2, .ref y3, .ref y4, .ref mZ])), (mL, .inl (cI, 512, .inl f_14)), (mB, .inl (cS, 131072, .inl eB)), (mD, .inl (cI, 2, .inl eD))]) ef_14 rfl (fun H locs hPn hDn hSn => ?_))
            clear hP hD hS
            have hP := hPn
            have hD := hDn
            have hS := hSn
            clear hPn hDn hSn
            have g_f14 : rg (-1) 65535 f_14 := rg_upd ef_14 g_eLa (by decide)
            obtain ⟨x_15, ex_15⟩ : ∃ y : Int32, y = k + 1 := ⟨_, rfl⟩
            have tx_15 : x_15.toInt = k.toInt + 1 := v_addR (l2 := 1) (h2 := 1) ex_15 g_k (by decide) (by decide) (by decide)
            refine lv_iinc (v := x_15) (lv' := [(3, .int x_15), (2, .int x_3), (0, .ref oM), (1, .int cd)]) hx hb dX12_blank_43 hl (k := 0) rfl (by rw [ex_15]; rfl) (by decide) rfl (fun ls hl => ?_)
            refine lv_goto (tgt := 23) hx hb dX12_blank_46 (by decide) ?_
            exact ih_23 x_15 f_14 _ _ _ (ms_lt hm_23 (by show ((256 - x_15.toInt : Int)) < 256 - k.toInt; omega) (by show (0 : Int) < 256 - k.toInt; omega)) (by show 0 ≤ x_15.toInt ∧ x_15.toInt ≤ 256; omega) (g_f14) (FB_s hfL (by omega) (by omega) (a := x_13) (by omega) ef_14 rfl (by omega)) hP hD hS (lv_sub hl [0, 1, 2, 3] rfl)
      exact LOOP_23 _ 0 eL _ _ _ (ms_s _) (by decide) (g_eL) (FB_0 (by decide)) hP hD hS (lv_sub hl [0, 1, 2, 3] rfl)
    · have tc_2 : 5 < cd.toInt := v_nle c_2
      refine lv_iconst (v := 0) hx hb dX12_blank_15 (by decide) ?_
      exact kl_z (v := 0) hQQ hx hb hr hlocks hS dX12_blank_16 (rfl) ⟨0, eL, eB, eD, zs, ⟨hP, hD⟩, g_eL, g_eB, g_zs, by show (0 = 1 ∧ (cd.toInt = 4 ∨ cd.toInt = 5)) ∨ (0 = 0 ∧ ¬ cd.toInt = 4 ∧ ¬ cd.toInt = 5); omega, by show zs.toInt ≤ zs.toInt + 1 ∧ zs.toInt ≤ zs.toInt; omega, Or.inr ⟨by omega, by omega, rfl, rfl, rfl⟩, by first | exact Or.inl ⟨by first | rfl | omega, rfl⟩ | exact Or.inr ⟨by first | decide | omega, by omega⟩⟩

set_option maxHeartbeats 40000000 in
set_option maxRecDepth 100000 in
theorem f_X2_letterAlone (l : Launch) (dC : Nat → ClassId) (dI : Nat → Nat → Nat) (cI cS : ClassId) (sz : Nat) (oC : Nat) (o4 : Nat) (o5 : Nat) (a41 : Nat) (a42 : Nat) (a43 : Nat) (a51 : Nat) (a52 : Nat) (a53 : Nat) (l4 : Int32) (f41 : Nat → Int32) (l5 : Int32) (f51 : Nat → Int32) (cd : Int32) (v : Int32) (g_v : 0 ≤ v.toInt ∧ v.toInt ≤ 255) : kMi l yX2_letterAlone wsX2_letterAlone ({ frames := 1, cells := 0, slots := 0, locals := 21 } : Room) [.ref oC, .int cd, .int v] sz (dC, dI) vwCl [(cI, .int), (cS, .short)] [(oC, .inr (2, [.ref o4, .ref o5])), (o4, .inr (10, [.ref a41, .ref a42, .ref a43, .int l4])), (a41, .inl (cI, 256, .inl f41)), (o5, .inr (10, [.ref a51, .ref a52, .ref a53, .int l5])), (a51, .inl (cI, 256, .inl f51))] (fun _ => True) 0 0 (fun (A : Nat → Prop) (r : Int32) (hh9 : Heap) => kPD (dC, dI) vwCl A [(oC, .inr (2, [.ref o4, .ref o5])), (o4, .inr (10, [.ref a41, .ref a42, .ref a43, .int l4])), (a41, .inl (cI, 256, .inl f41)), (o5, .inr (10, [.ref a51, .ref a52, .ref a53, .int l5])), (a51, .inl (cI, 256, .inl f51))] hh9 ∧ (r = alF cd v f41 f51)) := by
  refine kMi_of (cc := cX2_letterAlone) (maxL := 4) (ret := (some .int)) (lv := [(0, .ref oC), (1, .int cd), (2, .int v)]) (by decide +kernel) rfl rfl (Nat.le_of_ble_eq_true rfl) ?_
  intro p e s m below meth c A QQ ls hx hb hr hts hml hown hlocks hA hQQ hK hX hP hD hS hl
  have hown : s.vm.findClass RX2 = some m.cls := hown
  have hcf := k_cf hx hb hml hown hts
  refine lv_iload_n hx hb dX2_letterAlone_0 rfl (lv_at hl 1 rfl) ?_
  by_cases c_1 : cd = 0
  · refine lv_tableIn (tgt := 32) hx hb dX2_letterAlone_1 (by rw [c_1]; decide) (by rw [c_1]; decide) (by rw [c_1]; rfl) (by decide) ?_
    have tc_1 : cd.toInt = 0 := v_eq c_1
    refine lv_iload_n hx hb dX2_letterAlone_32 rfl (lv_at hl 2 rfl) ?_
    refine lv_sipush (v := 128) hx hb dX2_letterAlone_33 (by decide) ?_
    refine lv_icmp_ge (tgt := 43) hx hb dX2_letterAlone_36 (by decide) (fun c_2 => ?_) (fun c_2 => ?_)
    · have tc_2 : 128 ≤ v.toInt := v_le c_2
      refine lv_iconst (v := (-1)) hx hb dX2_letterAlone_43 (by decide) ?_
      exact kl_i (v := (-1)) hQQ hx hb hr hlocks hS dX2_letterAlone_44 ⟨⟨hP, hD⟩, by unfold alF; (repeat (first | rw [if_pos (by omega)] | rw [if_neg (by omega)]))⟩
    · have tc_2 : v.toInt < 128 := v_nle c_2
      refine lv_iload_n hx hb dX2_letterAlone_39 rfl (lv_at hl 2 rfl) ?_
      refine lv_goto (tgt := 44) hx hb dX2_letterAlone_40 (by decide) ?_
      exact kl_i (v := v) hQQ hx hb hr hlocks hS dX2_letterAlone_44 ⟨⟨hP, hD⟩, by unfold alF; (repeat (first | rw [if_pos (by omega)] | rw [if_neg (by omega)]))⟩
  · skip
    have tc_1 : ¬ cd.toInt = 0 := v_ne c_1
    by_cases c_3 : cd = 1
    · refine lv_tableIn (tgt := 45) hx hb dX2_letterAlone_1 (by rw [c_3]; decide) (by rw [c_3]; decide) (by rw [c_3]; rfl) (by decide) ?_
      have tc_3 : cd.toInt = 1 := v_eq c_3
      refine lv_iload_n hx hb dX2_letterAlone_45 rfl (lv_at hl 2 rfl) ?_
      exact kl_i (v := v) hQQ hx hb hr hlocks hS dX2_letterAlone_46 ⟨⟨hP, hD⟩, by unfold alF; (repeat (first | rw [if_pos (by omega)] | rw [if_neg (by omega)]))⟩
    · skip
      have tc_3 : ¬ cd.toInt = 1 := v_ne c_3
      by_cases c_4 : cd = 2
      · refine lv_tableIn (tgt := 32) hx hb dX2_letterAlone_1 (by rw [c_4]; decide) (by rw [c_4]; decide) (by rw [c_4]; rfl) (by decide) ?_
        have tc_4 : cd.toInt = 2 := v_eq c_4
        refine lv_iload_n hx hb dX2_letterAlone_32 rfl (lv_at hl 2 rfl) ?_
        refine lv_sipush (v := 128) hx hb dX2_letterAlone_33 (by decide) ?_
        refine lv_icmp_ge (tgt := 43) hx hb dX2_letterAlone_36 (by decide) (fun c_5 => ?_) (fun c_5 => ?_)
        · have tc_5 : 128 ≤ v.toInt := v_le c_5
          refine lv_iconst (v := (-1)) hx hb dX2_letterAlone_43 (by decide) ?_
          exact kl_i (v := (-1)) hQQ hx hb hr hlocks hS dX2_letterAlone_44 ⟨⟨hP, hD⟩, by unfold alF; (repeat (first | rw [if_pos (by omega)] | rw [if_neg (by omega)]))⟩
        · have tc_5 : v.toInt < 128 := v_nle c_5
          refine lv_iload_n hx hb dX2_letterAlone_39 rfl (lv_at hl 2 rfl) ?_
          refine lv_goto (tgt := 44) hx hb dX2_letterAlone_40 (by decide) ?_
          exact kl_i (v := v) hQQ hx hb hr hlocks hS dX2_letterAlone_44 ⟨⟨hP, hD⟩, by unfold alF; (repeat (first | rw [if_pos (by omega)] | rw [if_neg (by omega)]))⟩
      · skip
        have tc_4 : ¬ cd.toInt = 2 := v_ne c_4
        by_cases c_6 : cd = 3
        · refine lv_tableIn (tgt := 47) hx hb dX2_letterAlone_1 (by rw [c_6]; decide) (by rw [c_6]; decide) (by rw [c_6]; rfl) (by decide) ?_
          have tc_6 : cd.toInt = 3 := v_eq c_6
          refine lv_iload_n hx hb dX2_letterAlone_47 rfl (lv_at hl 2 rfl) ?_
          refine lv_sipush (v := 128) hx hb dX2_letterAlone_48 (by decide) ?_
          refine lv_icmp_ge (tgt := 64) hx hb dX2_letterAlone_51 (by decide) (fun c_7 => ?_) (fun c_7 => ?_)
          · have tc_7 : 128 ≤ v.toInt := v_le c_7
            refine lv_iconst (v := (-1)) hx hb dX2_letterAlone_64 (by decide) ?_
            exact kl_i (v := (-1)) hQQ hx hb hr hlocks hS dX2_letterAlone_65 ⟨⟨hP, hD⟩, by unfold alF; (repeat (first | rw [if_pos (by omega)] | rw [if_neg (by omega)]))⟩
          · have tc_7 : v.toInt < 128 := v_nle c_7
            refine lv_iload_n hx hb dX2_letterAlone_54 rfl (lv_at hl 2 rfl) ?_
            refine lv_bipush (v := 38) hx hb dX2_letterAlone_55 (by decide) ?_
            refine lv_icmp_eq (tgt := 64) hx hb dX2_letterAlone_57 (by decide) (fun c_8 => ?_) (fun c_8 => ?_)
            · have tc_8 : v.toInt = 38 := v_eq c_8
              refine lv_iconst (v := (-1)) hx hb dX2_letterAlone_64 (by decide) ?_
              exact kl_i (v := (-1)) hQQ hx hb hr hlocks hS dX2_letterAlone_65 ⟨⟨hP, hD⟩, by unfold alF; (repeat (first | rw [if_pos (by omega)] | rw [if_neg (by omega)]))⟩
            · have tc_8 : ¬ v.toInt = 38 := v_ne c_8
              refine lv_iload_n hx hb dX2_letterAlone_60 rfl (lv_at hl 2 rfl) ?_
              refine lv_goto (tgt := 65) hx hb dX2_letterAlone_61 (by decide) ?_
              exact kl_i (v := v) hQQ hx hb hr hlocks hS dX2_letterAlone_65 ⟨⟨hP, hD⟩, by unfold alF; (repeat (first | rw [if_pos (by omega)] | rw [if_neg (by omega)]))⟩
        · skip
          have tc_6 : ¬ cd.toInt = 3 := v_ne c_6
          refine lv_tableOut (tgt := 66) hx hb dX2_letterAlone_1 (by omega) (by decide) ?_
          refine lv_aload_n hx hb dX2_letterAlone_66 rfl (lv_at hl 0 rfl) ?_
          refine lv_iload_n hx hb dX2_letterAlone_67 rfl (lv_at hl 1 rfl) ?_
          by_cases cs_9 : cd.toInt = 4
          · refine kV_r (rest := []) (q0 := 0) (ci := 2) hcf (m_X2_toldCode_4 l dC dI cI cS s.heap.size oC o4 o5 cd (by omega)) kc_X2_toldCode gX2_letterAlone_X2_toldCode rfl rfl rfl ⟨Nat.le_of_ble_eq_true rfl, Nat.le_of_ble_eq_true rfl⟩ kX_t hK hP hD hS hA [0] [1, 2, 3, 4] rfl (by decide +kernel) rfl rfl rfl hl rfl (Nat.le_of_ble_eq_true rfl) dX2_letterAlone_68 ⟨Nat.le_of_ble_eq_true rfl, Nat.le_of_ble_eq_true rfl⟩ (fun r_10 H locs hB hJ hSn => ?_)
            obtain ⟨hra, ⟨hP1, hD1⟩⟩ := hB
            rw [hra]
            obtain ⟨hPn, hDn⟩ := hJ _ hP1 hD1 [(o4, .inr (10, [.ref a41, .ref a42, .ref a43, .int l4])), (a41, .inl (cI, 256, .inl f41)), (o5, .inr (10, [.ref a51, .ref a52, .ref a53, .int l5])), (a51, .inl (cI, 256, .inl f51)), (oC, .inr (2, [.ref o4, .ref o5]))] rfl
            clear hP hD hS hJ hP1 hD1
            have hP := hPn
            have hD := hDn
            have hS := hSn
            clear hPn hDn hSn
            refine lv_astore_n (lv' := [(3, .ref o4), (0, .ref oC), (1, .int cd), (2, .int v)]) hx hb dX2_letterAlone_71 rfl hl (by decide) rfl (fun ls hl => ?_)
            refine lv_aload_n hx hb dX2_letterAlone_72 rfl (lv_at hl 0 rfl) ?_
            refine lv_ifnonnull (tgt := 80) hx hb dX2_letterAlone_73 (by decide) ?_
            refine lv_aload_n hx hb dX2_letterAlone_80 rfl (lv_at hl 0 rfl) ?_
            refine lv_iload_n hx hb dX2_letterAlone_81 rfl (lv_at hl 3 rfl) ?_
            refine kV_i (rest := []) (q0 := 0) (ci := 10) hcf (m_X10_letterFor l dC dI cI cS H.size o4 a41 a42 a43 l4 f41 v ) kc_X10_letterFor gX2_letterAlone_X10_letterFor rfl rfl rfl ⟨Nat.le_of_ble_eq_true rfl, Nat.le_of_ble_eq_true rfl⟩ kX_t hK hP hD hS hA [0, 1] [2, 3, 4] rfl (by decide +kernel) rfl rfl rfl hl rfl (Nat.le_of_ble_eq_true rfl) dX2_letterAlone_82 ⟨Nat.le_of_ble_eq_true rfl, Nat.le_of_ble_eq_true rfl⟩ (fun r_11 H locs hB hJ hSn => ?_)
            obtain ⟨⟨hP1, hD1⟩, hf11_0⟩ := hB
            obtain ⟨hPn, hDn⟩ := hJ _ hP1 hD1 [(o5, .inr (10, [.ref a51, .ref a52, .ref a53, .int l5])), (a51, .inl (cI, 256, .inl f51)), (oC, .inr (2, [.ref o4, .ref o5])), (o4, .inr (10, [.ref a41, .ref a42, .ref a43, .int l4])), (a41, .inl (cI, 256, .inl f41))] rfl
            clear hP hD hS hJ hP1 hD1
            have hP := hPn
            have hD := hDn
            have hS := hSn
            clear hPn hDn hSn
            exact kl_i (v := r_11) hQQ hx hb hr hlocks hS dX2_letterAlone_85 ⟨kPD_sub hP hD [2, 3, 4, 0, 1] (by decide +kernel) rfl, (F_get_f hf11_0 (by omega) (by show v.toInt < 256; omega)).trans (by unfold alF; (repeat (first | rw [if_pos (by omega)] | rw [if_neg (by omega)])))⟩
          · skip
            by_cases cs_12 : cd.toInt = 5
            · refine kV_r (rest := []) (q0 := 0) (ci := 2) hcf (m_X2_toldCode_5 l dC dI cI cS s.heap.size oC o4 o5 cd (by omega)) kc_X2_toldCode gX2_letterAlone_X2_toldCode rfl rfl rfl ⟨Nat.le_of_ble_eq_true rfl, Nat.le_of_ble_eq_true rfl⟩ kX_t hK hP hD hS hA [0] [1, 2, 3, 4] rfl (by decide +kernel) rfl rfl rfl hl rfl (Nat.le_of_ble_eq_true rfl) dX2_letterAlone_68 ⟨Nat.le_of_ble_eq_true rfl, Nat.le_of_ble_eq_true rfl⟩ (fun r_13 H locs hB hJ hSn => ?_)
              obtain ⟨hra, ⟨hP1, hD1⟩⟩ := hB
              rw [hra]
              obtain ⟨hPn, hDn⟩ := hJ _ hP1 hD1 [(o4, .inr (10, [.ref a41, .ref a42, .ref a43, .int l4])), (a41, .inl (cI, 256, .inl f41)), (o5, .inr (10, [.ref a51, .ref a52, .ref a53, .int l5])), (a51, .inl (cI, 256, .inl f51)), (oC, .inr (2, [.ref o4, .ref o5]))] rfl
              clear hP hD hS hJ hP1 hD1
              have hP := hPn
              have hD := hDn
              have hS := hSn
              clear hPn hDn hSn
              refine lv_astore_n (lv' := [(3, .ref o5), (0, .ref oC), (1, .int cd), (2, .int v)]) hx hb dX2_letterAlone_71 rfl hl (by decide) rfl (fun ls hl => ?_)
              refine lv_aload_n hx hb dX2_letterAlone_72 rfl (lv_at hl 0 rfl) ?_
              refine lv_ifnonnull (tgt := 80) hx hb dX2_letterAlone_73 (by decide) ?_
              refine lv_aload_n hx hb dX2_letterAlone_80 rfl (lv_at hl 0 rfl) ?_
              refine lv_iload_n hx hb dX2_letterAlone_81 rfl (lv_at hl 3 rfl) ?_
              refine kV_i (rest := []) (q0 := 0) (ci := 10) hcf (m_X10_letterFor l dC dI cI cS H.size o5 a51 a52 a53 l5 f51 v ) kc_X10_letterFor gX2_letterAlone_X10_letterFor rfl rfl rfl ⟨Nat.le_of_ble_eq_true rfl, Nat.le_of_ble_eq_true rfl⟩ kX_t hK hP hD hS hA [2, 3] [0, 1, 4] rfl (by decide +kernel) rfl rfl rfl hl rfl (Nat.le_of_ble_eq_true rfl) dX2_letterAlone_82 ⟨Nat.le_of_ble_eq_true rfl, Nat.le_of_ble_eq_true rfl⟩ (fun r_14 H locs hB hJ hSn => ?_)
              obtain ⟨⟨hP1, hD1⟩, hf14_0⟩ := hB
              obtain ⟨hPn, hDn⟩ := hJ _ hP1 hD1 [(o4, .inr (10, [.ref a41, .ref a42, .ref a43, .int l4])), (a41, .inl (cI, 256, .inl f41)), (oC, .inr (2, [.ref o4, .ref o5])), (o5, .inr (10, [.ref a51, .ref a52, .ref a53, .int l5])), (a51, .inl (cI, 256, .inl f51))] rfl
              clear hP hD hS hJ hP1 hD1
              have hP := hPn
              have hD := hDn
              have hS := hSn
              clear hPn hDn hSn
              exact kl_i (v := r_14) hQQ hx hb hr hlocks hS dX2_letterAlone_85 ⟨kPD_sub hP hD [2, 0, 1, 3, 4] (by decide +kernel) rfl, (F_get_f hf14_0 (by omega) (by show v.toInt < 256; omega)).trans (by unfold alF; (repeat (first | rw [if_pos (by omega)] | rw [if_neg (by omega)])))⟩
            · skip
              refine kV_q (rest := []) (q0 := 0) (ci := 2) hcf (m_X2_toldCode_n l dC dI cI cS s.heap.size oC o4 o5 cd (by omega) (by omega)) kc_X2_toldCode gX2_letterAlone_X2_toldCode rfl rfl rfl ⟨Nat.le_of_ble_eq_true rfl, Nat.le_of_ble_eq_true rfl⟩ kX_t hK hP hD hS hA [0] [1, 2, 3, 4] rfl (by decide +kernel) rfl rfl rfl hl rfl (Nat.le_of_ble_eq_true rfl) dX2_letterAlone_68 ⟨Nat.le_of_ble_eq_true rfl, Nat.le_of_ble_eq_true rfl⟩ (fun H locs hB hJ hSn => ?_)
              obtain ⟨hP1, hD1⟩ := hB
              obtain ⟨hPn, hDn⟩ := hJ _ hP1 hD1 [(o4, .inr (10, [.ref a41, .ref a42, .ref a43, .int l4])), (a41, .inl (cI, 256, .inl f41)), (o5, .inr (10, [.ref a51, .ref a52, .ref a53, .int l5])), (a51, .inl (cI, 256, .inl f51)), (oC, .inr (2, [.ref o4, .ref o5]))] rfl
              clear hP hD hS hJ hP1 hD1
              have hP := hPn
              have hD := hDn
              have hS := hSn
              clear hPn hDn hSn
              refine lv_astore_nN (lv' := [(3, .null), (0, .ref oC), (1, .int cd), (2, .int v)]) hx hb dX2_letterAlone_71 rfl hl (by decide) rfl (fun ls hl => ?_)
              refine lv_aload_nN hx hb dX2_letterAlone_72 rfl (lv_at hl 0 rfl) ?_
              refine lv_ifnonnullN hx hb dX2_letterAlone_73 ?_
              refine lv_iconst (v := (-1)) hx hb dX2_letterAlone_76 (by decide) ?_
              refine lv_goto (tgt := 85) hx hb dX2_letterAlone_77 (by decide) ?_
              exact kl_i (v := (-1)) hQQ hx hb hr hlocks hS dX2_letterAlone_85 ⟨kPD_sub hP hD [4, 0, 1, 2, 3] (by decide +kernel) rfl, by unfold alF; (repeat (first | rw [if_pos (by omega)] | rw [if_neg (by omega)]))⟩

end

/-! 59b.dec -/
section
set_option maxHeartbeats 40000000 in
set_option maxRecDepth 100000 in
theorem f_X2_letterIn (l : Launch) (dC : Nat → ClassId) (dI : Nat → Nat → Nat) (cI cS : ClassId) (sz : Nat) (fd : Int32)  : kMi l yX2_letterIn wsX2_letterIn ({ frames := 0, cells := 0, slots := 0, locals := 0 } : Room) [.int fd] sz (dC, dI) vwCl [(cI, .int), (cS, .short)] [] (fun _ => True) 0 0 (fun (A : Nat → Prop) (r : Int32) (hh9 : Heap) => kPD (dC, dI) vwCl A [] hh9 ∧ (r.toInt = fd.toInt / 16)) := by
  refine kMi_of (cc := cX2_letterIn) (maxL := 1) (ret := (some .int)) (lv := [(0, .int fd)]) (by decide +kernel) rfl rfl (Nat.le_of_ble_eq_true rfl) ?_
  intro p e s m below meth c A QQ ls hx hb hr hts hml hown hlocks hA hQQ hK hX hP hD hS hl
  have hown : s.vm.findClass RX2 = some m.cls := hown
  have hcf := k_cf hx hb hml hown hts
  refine lv_iload_n hx hb dX2_letterIn_0 rfl (lv_at hl 0 rfl) ?_
  refine lv_iconst (v := 4) hx hb dX2_letterIn_1 (by decide) ?_
  refine lv_ishr hx hb dX2_letterIn_2 ?_
  refine lv_topi (fun x_1 ex_1 => ?_)
  have rv1_0 := v_rng fd
  have tx_1 : x_1.toInt = fd.toInt / 16 := v_shr 4 ex_1 (by decide)
  exact kl_i (v := x_1) hQQ hx hb hr hlocks hS dX2_letterIn_3 ⟨⟨hP, hD⟩, by show x_1.toInt = fd.toInt / 16; omega⟩

set_option maxHeartbeats 40000000 in
set_option maxRecDepth 100000 in
theorem f_X2_bytesIn (l : Launch) (dC : Nat → ClassId) (dI : Nat → Nat → Nat) (cI cS : ClassId) (sz : Nat) (fd : Int32) (g_fd : 0 ≤ fd.toInt ∧ fd.toInt ≤ 2000000) : kMi l yX2_bytesIn wsX2_bytesIn ({ frames := 0, cells := 0, slots := 0, locals := 0 } : Room) [.int fd] sz (dC, dI) vwCl [(cI, .int), (cS, .short)] [] (fun _ => True) 0 0 (fun (A : Nat → Prop) (r : Int32) (hh9 : Heap) => kPD (dC, dI) vwCl A [] hh9 ∧ (0 ≤ r.toInt ∧ r.toInt ≤ 15) ∧ (r.toInt = fd.toInt % 16)) := by
  refine kMi_of (cc := cX2_bytesIn) (maxL := 1) (ret := (some .int)) (lv := [(0, .int fd)]) (by decide +kernel) rfl rfl (Nat.le_of_ble_eq_true rfl) ?_
  intro p e s m below meth c A QQ ls hx hb hr hts hml hown hlocks hA hQQ hK hX hP hD hS hl
  have hown : s.vm.findClass RX2 = some m.cls := hown
  have hcf := k_cf hx hb hml hown hts
  refine lv_iload_n hx hb dX2_bytesIn_0 rfl (lv_at hl 0 rfl) ?_
  refine lv_bipush (v := 15) hx hb dX2_bytesIn_1 (by decide) ?_
  refine lv_iand hx hb dX2_bytesIn_3 ?_
  refine lv_topi (fun x_1 ex_1 => ?_)
  have tx_1 : 0 ≤ x_1.toInt ∧ x_1.toInt < 16 := v_and 4 ex_1 (by decide) (by decide)
  have tb_x_1 : x_1.toInt = fd.toInt % 16 := v_and15 ex_1 (by omega)
  exact kl_i (v := x_1) hQQ hx hb hr hlocks hS dX2_bytesIn_4 ⟨⟨hP, hD⟩, by omega, by show x_1.toInt = fd.toInt % 16; omega⟩

set_option maxHeartbeats 40000000 in
set_option maxRecDepth 100000 in
theorem f_X2_found (l : Launch) (dC : Nat → ClassId) (dI : Nat → Nat → Nat) (cI cS : ClassId) (sz : Nat) (le : Int32) (by_ : Int32) (g_le : 0 ≤ le.toInt ∧ le.toInt ≤ 65535) (g_by_ : 0 ≤ by_.toInt ∧ by_.toInt ≤ 15) : kMi l yX2_found wsX2_found ({ frames := 0, cells := 0, slots := 0, locals := 0 } : Room) [.int le, .int by_] sz (dC, dI) vwCl [(cI, .int), (cS, .short)] [] (fun _ => True) 0 0 (fun (A : Nat → Prop) (r : Int32) (hh9 : Heap) => kPD (dC, dI) vwCl A [] hh9 ∧ (r.toInt = 16 * le.toInt + by_.toInt)) := by
  refine kMi_of (cc := cX2_found) (maxL := 2) (ret := (some .int)) (lv := [(0, .int le), (1, .int by_)]) (by decide +kernel) rfl rfl (Nat.le_of_ble_eq_true rfl) ?_
  intro p e s m below meth c A QQ ls hx hb hr hts hml hown hlocks hA hQQ hK hX hP hD hS hl
  have hown : s.vm.findClass RX2 = some m.cls := hown
  have hcf := k_cf hx hb hml hown hts
  refine lv_iload_n hx hb dX2_found_0 rfl (lv_at hl 0 rfl) ?_
  refine lv_iconst (v := (-1)) hx hb dX2_found_1 (by decide) ?_
  refine lv_icmp_ne (tgt := 9) hx hb dX2_found_2 (by decide) (fun c_1 => ?_) (fun c_1 => by exfalso; have tc_1 : le.toInt = (-1) := v_eq c_1; omega)
  have tc_1 : ¬ le.toInt = (-1) := v_ne c_1
  refine lv_iload_n hx hb dX2_found_9 rfl (lv_at hl 0 rfl) ?_
  refine lv_iconst (v := 4) hx hb dX2_found_10 (by decide) ?_
  refine lv_ishl hx hb dX2_found_11 ?_
  refine lv_topi (fun x_2 ex_2 => ?_)
  have tb_x_2 : x_2.toInt = 16 * le.toInt := v_shl4 ex_2 (by omega)
  refine lv_iload_n hx hb dX2_found_12 rfl (lv_at hl 1 rfl) ?_
  refine lv_iadd hx hb dX2_found_13 ?_
  refine lv_topi (fun x_3 ex_3 => ?_)
  have tx_3 : x_3.toInt = x_2.toInt + by_.toInt := v_add ex_3 (by show -2147483648 ≤ x_2.toInt + by_.toInt; omega) (by show x_2.toInt + by_.toInt < 2147483648; omega)
  exact kl_i (v := x_3) hQQ hx hb hr hlocks hS dX2_found_14 ⟨⟨hP, hD⟩, by show x_3.toInt = 16 * le.toInt + by_.toInt; omega⟩

set_option maxHeartbeats 40000000 in
set_option maxRecDepth 100000 in
theorem f_X2_isNumbered (l : Launch) (dC : Nat → ClassId) (dI : Nat → Nat → Nat) (cI cS : ClassId) (sz : Nat) (le : Int32)  : kMi l yX2_isNumbered wsX2_isNumbered ({ frames := 0, cells := 0, slots := 0, locals := 0 } : Room) [.int le] sz (dC, dI) vwCl [(cI, .int), (cS, .short)] [] (fun _ => True) 0 0 (fun (A : Nat → Prop) (r : Int32) (hh9 : Heap) => kPD (dC, dI) vwCl A [] hh9 ∧ (0 ≤ r.toInt ∧ r.toInt ≤ 1) ∧ ((r.toInt = 1 ∧ (128 ≤ le.toInt ∨ le.toInt = 38)) ∨ (r.toInt = 0 ∧ le.toInt < 128 ∧ ¬ le.toInt = 38))) := by
  refine kMi_of (cc := cX2_isNumbered) (maxL := 1) (ret := (some .boolean)) (lv := [(0, .int le)]) (by decide +kernel) rfl rfl (Nat.le_of_ble_eq_true rfl) ?_
  intro p e s m below meth c A QQ ls hx hb hr hts hml hown hlocks hA hQQ hK hX hP hD hS hl
  have hown : s.vm.findClass RX2 = some m.cls := hown
  have hcf := k_cf hx hb hml hown hts
  refine lv_iload_n hx hb dX2_isNumbered_0 rfl (lv_at hl 0 rfl) ?_
  refine lv_sipush (v := 128) hx hb dX2_isNumbered_1 (by decide) ?_
  refine lv_icmp_ge (tgt := 13) hx hb dX2_isNumbered_4 (by decide) (fun c_1 => ?_) (fun c_1 => ?_)
  · have tc_1 : 128 ≤ le.toInt := v_le c_1
    refine lv_iconst (v := 1) hx hb dX2_isNumbered_13 (by decide) ?_
    refine lv_goto (tgt := 18) hx hb dX2_isNumbered_14 (by decide) ?_
    exact kl_z (v := 1) hQQ hx hb hr hlocks hS dX2_isNumbered_18 (rfl) ⟨⟨hP, hD⟩, by decide, by show (1 = 1 ∧ (128 ≤ le.toInt ∨ le.toInt = 38)) ∨ (1 = 0 ∧ le.toInt < 128 ∧ ¬ le.toInt = 38); omega⟩
  · have tc_1 : le.toInt < 128 := v_nle c_1
    refine lv_iload_n hx hb dX2_isNumbered_7 rfl (lv_at hl 0 rfl) ?_
    refine lv_bipush (v := 38) hx hb dX2_isNumbered_8 (by decide) ?_
    refine lv_icmp_ne (tgt := 17) hx hb dX2_isNumbered_10 (by decide) (fun c_2 => ?_) (fun c_2 => ?_)
    · have tc_2 : ¬ le.toInt = 38 := v_ne c_2
      refine lv_iconst (v := 0) hx hb dX2_isNumbered_17 (by decide) ?_
      exact kl_z (v := 0) hQQ hx hb hr hlocks hS dX2_isNumbered_18 (rfl) ⟨⟨hP, hD⟩, by decide, by show (0 = 1 ∧ (128 ≤ le.toInt ∨ le.toInt = 38)) ∨ (0 = 0 ∧ le.toInt < 128 ∧ ¬ le.toInt = 38); omega⟩
    · have tc_2 : le.toInt = 38 := v_eq c_2
      refine lv_iconst (v := 1) hx hb dX2_isNumbered_13 (by decide) ?_
      refine lv_goto (tgt := 18) hx hb dX2_isNumbered_14 (by decide) ?_
      exact kl_z (v := 1) hQQ hx hb hr hlocks hS dX2_isNumbered_18 (rfl) ⟨⟨hP, hD⟩, by decide, by show (1 = 1 ∧ (128 ≤ le.toInt ∨ le.toInt = 38)) ∨ (1 = 0 ∧ le.toInt < 128 ∧ ¬ le.toInt = 38); omega⟩

set_option maxHeartbeats 40000000 in
set_option maxRecDepth 100000 in
theorem f_X2_decodeMany (l : Launch) (dC : Nat → ClassId) (dI : Nat → Nat → Nat) (cI cS : ClassId) (sz : Nat) (nu : Nat) (au : Nat) (cap : Nat) (lu : Int32) (fu : Nat → Int32) (fr : Int32) (en : Int32) (g_lu : 0 ≤ lu.toInt ∧ lu.toInt ≤ (cap : Int)) (g_fr : 0 ≤ fr.toInt ∧ fr.toInt ≤ 2400) (hcap : cap ≤ 2400) (hen : en.toInt ≤ lu.toInt) (hfe : fr.toInt < en.toInt) : kMi l yX2_decodeMany wsX2_decodeMany ({ frames := 1, cells := 0, slots := 0, locals := 21 } : Room) [.ref nu, .int fr, .int en] sz (dC, dI) vwCl [(cI, .int), (cS, .short)] [(nu, .inr (5, [.ref au, .int lu])), (au, .inl (cI, cap, .inl fu))] (va_Nw (.methodLinkNest RX2 52 yX11_isLetter "TextMender")) 0 0 (fun (A : Nat → Prop) (r : Int32) (hh9 : Heap) => kPD (dC, dI) vwCl A [(nu, .inr (5, [.ref au, .int lu])), (au, .inl (cI, cap, .inl fu))] hh9 ∧ (F_dm r fu en.toInt fr.toNatClampNeg)) := by
  refine kMi_of (cc := cX2_decodeMany) (maxL := 8) (ret := (some .int)) (lv := [(0, .ref nu), (1, .int fr), (2, .int en)]) (by decide +kernel) rfl rfl (Nat.le_of_ble_eq_true rfl) ?_
  intro p e s m below meth c A QQ ls hx hb hr hts hml hown hlocks hA hQQ hK hX hP hD hS hl
  have hown : s.vm.findClass RX2 = some m.cls := hown
  have hcf := k_cf hx hb hml hown hts
  have hN52 := hX
  have c0 := v_clamp (x := fr) (by omega)
  have z0 : (0 : Int32).toInt = 0 := rfl
  have z1 : (1 : Int32).toInt = 1 := rfl
  have z2 : (2 : Int32).toInt = 2 := rfl
  have z3 : (3 : Int32).toInt = 3 := rfl
  refine lv_aload_n hx hb dX2_decodeMany_0 rfl (lv_at hl 0 rfl) ?_
  refine lv_iload_n hx hb dX2_decodeMany_1 rfl (lv_at hl 1 rfl) ?_
  refine kV_i (rest := []) (q0 := 0) (ci := 5) hcf (m_X5_get l dC dI cI cS s.heap.size nu au cap lu fu fr (g_lu) (by omega)) kc_X5_get gX2_decodeMany_X5_get rfl rfl rfl ⟨Nat.le_of_ble_eq_true rfl, Nat.le_of_ble_eq_true rfl⟩ kX_t hK hP hD hS hA [0, 1] [] rfl (by decide +kernel) rfl rfl rfl hl rfl (Nat.le_of_ble_eq_true rfl) dX2_decodeMany_2 ⟨Nat.le_of_ble_eq_true rfl, Nat.le_of_ble_eq_true rfl⟩ (fun r_1 H locs hB hJ hSn => ?_)
  obtain ⟨⟨hP1, hD1⟩, hf1_0⟩ := hB
  obtain ⟨hPn, hDn⟩ := hJ _ hP1 hD1 [(nu, .inr (5, [.ref au, .int lu])), (au, .inl (cI, cap, .inl fu))] rfl
  clear hP hD hS hJ hP1 hD1
  have hP := hPn
  have hD := hDn
  have hS := hSn
  clear hPn hDn hSn
  have hb1 : r_1.toInt = bt fu en.toInt fr.toNatClampNeg := get_bt (k := fr.toNatClampNeg) hf1_0 (by omega) (by omega) hen
  refine lv_istore_n (lv' := [(3, .int r_1), (0, .ref nu), (1, .int fr), (2, .int en)]) hx hb dX2_decodeMany_5 rfl hl (by decide) rfl (fun ls hl => ?_)
  refine lv_iload_n hx hb dX2_decodeMany_6 rfl (lv_at hl 0 rfl) ?_
  refine lv_sipush (v := 224) hx hb dX2_decodeMany_7 (by decide) ?_
  refine lv_icmp_lt (tgt := 17) hx hb dX2_decodeMany_10 (by decide) (fun c_2 => ?_) (fun c_2 => ?_)
  · have tc_2 : r_1.toInt < 224 := v_lt c_2
    refine lv_iconst (v := 2) hx hb dX2_decodeMany_17 (by decide) ?_
    refine lv_istore (lv' := [(4, .int 2), (3, .int r_1), (0, .ref nu), (1, .int fr), (2, .int en)]) hx hb dX2_decodeMany_18 hl (by decide) rfl (fun ls hl => ?_)
    refine lv_iload_n hx hb dX2_decodeMany_20 rfl (lv_at hl 1 rfl) ?_
    refine lv_sipush (v := 192) hx hb dX2_decodeMany_21 (by decide) ?_
    refine lv_icmp_lt (tgt := 42) hx hb dX2_decodeMany_24 (by decide) (fun c_3 => ?_) (fun c_3 => ?_)
    · have tc_3 : r_1.toInt < 192 := v_lt c_3
      refine lv_iconst (v := (-1)) hx hb dX2_decodeMany_42 (by decide) ?_
      exact kl_i (v := (-1)) hQQ hx hb hr hlocks hS dX2_decodeMany_43 ⟨⟨hP, hD⟩, Or.inr ⟨rfl, fun l x h => by have o1 := bt_c fu en.toInt (fr.toNatClampNeg + 1); have o2 := bt_c fu en.toInt (fr.toNatClampNeg + 2); unfold DMa DM at h; omega⟩⟩
    · have tc_3 : 192 ≤ r_1.toInt := v_nlt c_3
      refine lv_iload_n hx hb dX2_decodeMany_27 rfl (lv_at hl 1 rfl) ?_
      refine lv_sipush (v := 239) hx hb dX2_decodeMany_28 (by decide) ?_
      refine lv_icmp_gt (tgt := 42) hx hb dX2_decodeMany_31 (by decide) (fun c_4 => by exfalso; have tc_4 : 239 < r_1.toInt := v_lt c_4; omega) (fun c_4 => ?_)
      have tc_4 : r_1.toInt ≤ 239 := v_nlt c_4
      refine lv_iload hx hb dX2_decodeMany_34 (lv_at hl 0 rfl) ?_
      refine lv_iload_n hx hb dX2_decodeMany_36 rfl (lv_at hl 4 rfl) ?_
      refine lv_iload_n hx hb dX2_decodeMany_37 rfl (lv_at hl 3 rfl) ?_
      refine lv_isub hx hb dX2_decodeMany_38 ?_
      refine lv_topi (fun x_5 ex_5 => ?_)
      have tx_5 : x_5.toInt = en.toInt - fr.toInt := v_sub ex_5 (by show -2147483648 ≤ en.toInt - fr.toInt; omega) (by show en.toInt - fr.toInt < 2147483648; omega)
      refine lv_icmp_le (tgt := 44) hx hb dX2_decodeMany_39 (by decide) (fun c_6 => ?_) (fun c_6 => ?_)
      · have tc_6 : 2 ≤ x_5.toInt := v_le c_6
        refine lv_iload hx hb dX2_decodeMany_44 (lv_at hl 0 rfl) ?_
        refine lv_iconst (v := 3) hx hb dX2_decodeMany_46 (by decide) ?_
        refine lv_icmp_ne (tgt := 58) hx hb dX2_decodeMany_47 (by decide) (fun c_7 => ?_) (fun c_7 => absurd c_7 (by decide))
        refine lv_iload_n hx hb dX2_decodeMany_58 rfl (lv_at hl 1 rfl) ?_
        refine lv_sipush (v := 192) hx hb dX2_decodeMany_59 (by decide) ?_
        refine lv_isub hx hb dX2_decodeMany_62 ?_
        refine lv_topi (fun x_8 ex_8 => ?_)
        have tx_8 : x_8.toInt = r_1.toInt - 192 := v_sub ex_8 (by show -2147483648 ≤ r_1.toInt - 192; omega) (by show r_1.toInt - 192 < 2147483648; omega)
        refine lv_istore (lv' := [(5, .int x_8), (4, .int 2), (3, .int r_1), (0, .ref nu), (1, .int fr), (2, .int en)]) hx hb dX2_decodeMany_63 hl (by decide) rfl (fun ls hl => ?_)
        refine lv_iconst (v := 1) hx hb dX2_decodeMany_65 (by decide) ?_
        refine lv_istore (lv' := [(6, .int 1), (5, .int x_8), (4, .int 2), (3, .int r_1), (0, .ref nu), (1, .int fr), (2, .int en)]) hx hb dX2_decodeMany_66 hl (by decide) rfl (fun ls hl => ?_)
        refine lv_iload hx hb dX2_decodeMany_68 (lv_at hl 0 rfl) ?_
        refine lv_iload hx hb dX2_decodeMany_70 (lv_at hl 2 rfl) ?_
        refine lv_icmp_ge (tgt := 123) hx hb dX2_decodeMany_72 (by decide) (fun c_9 => absurd c_9 (by decide)) (fun c_9 => ?_)
        refine lv_aload_n hx hb dX2_decodeMany_75 rfl (lv_at hl 4 rfl) ?_
        refine lv_iload_n hx hb dX2_decodeMany_76 rfl (lv_at hl 5 rfl) ?_
        refine lv_iload hx hb dX2_decodeMany_77 (lv_at hl 0 rfl) ?_
        refine lv_iadd hx hb dX2_decodeMany_79 ?_
        refine lv_topi (fun x_10 ex_10 => ?_)
        have tx_10 : x_10.toInt = fr.toInt + 1 := v_addR (l2 := 1) (h2 := 1) ex_10 g_fr (by decide) (by decide) (by decide)
        refine kV_i (rest := []) (q0 := 0) (ci := 5) hcf (m_X5_get l dC dI cI cS H.size nu au cap lu fu x_10 (g_lu) (by omega)) kc_X5_get gX2_decodeMany_X5_get rfl rfl rfl ⟨Nat.le_of_ble_eq_true rfl, Nat.le_of_ble_eq_true rfl⟩ kX_t hK hP hD hS hA [0, 1] [] rfl (by decide +kernel) rfl rfl rfl hl rfl (Nat.le_of_ble_eq_true rfl) dX2_decodeMany_80 ⟨Nat.le_of_ble_eq_true rfl, Nat.le_of_ble_eq_true rfl⟩ (fun r_11 H locs hB hJ hSn => ?_)
        obtain ⟨⟨hP1, hD1⟩, hf11_0⟩ := hB
        obtain ⟨hPn, hDn⟩ := hJ _ hP1 hD1 [(nu, .inr (5, [.ref au, .int lu])), (au, .inl (cI, cap, .inl fu))] rfl
        clear hP hD hS hJ hP1 hD1
        have hP := hPn
        have hD := hDn
        have hS := hSn
        clear hPn hDn hSn
        have hb11 : r_11.toInt = bt fu en.toInt (fr.toNatClampNeg + 1) := get_bt (k := fr.toNatClampNeg + 1) hf11_0 (by omega) (by omega) hen
        refine lv_istore (lv' := [(7, .int r_11), (6, .int 1), (5, .int x_8), (4, .int 2), (3, .int r_1), (0, .ref nu), (1, .int fr), (2, .int en)]) hx hb dX2_decodeMany_83 hl (by decide) rfl (fun ls hl => ?_)
        refine lv_iload hx hb dX2_decodeMany_85 (lv_at hl 0 rfl) ?_
        refine lv_sipush (v := 128) hx hb dX2_decodeMany_87 (by decide) ?_
        refine lv_icmp_lt (tgt := 101) hx hb dX2_decodeMany_90 (by decide) (fun c_12 => ?_) (fun c_12 => ?_)
        · have tc_12 : r_11.toInt < 128 := v_lt c_12
          refine lv_iconst (v := (-1)) hx hb dX2_decodeMany_101 (by decide) ?_
          exact kl_i (v := (-1)) hQQ hx hb hr hlocks hS dX2_decodeMany_102 ⟨⟨hP, hD⟩, Or.inr ⟨rfl, fun l x h => by have o1 := bt_c fu en.toInt (fr.toNatClampNeg + 1); have o2 := bt_c fu en.toInt (fr.toNatClampNeg + 2); unfold DMa DM at h; omega⟩⟩
        · have tc_12 : 128 ≤ r_11.toInt := v_nlt c_12
          refine lv_iload hx hb dX2_decodeMany_93 (lv_at hl 0 rfl) ?_
          refine lv_sipush (v := 191) hx hb dX2_decodeMany_95 (by decide) ?_
          refine lv_icmp_le (tgt := 103) hx hb dX2_decodeMany_98 (by decide) (fun c_13 => ?_) (fun c_13 => ?_)
          · have tc_13 : r_11.toInt ≤ 191 := v_le c_13
            refine lv_iload hx hb dX2_decodeMany_103 (lv_at hl 2 rfl) ?_
            refine lv_bipush (v := 64) hx hb dX2_decodeMany_105 (by decide) ?_
            refine lv_imul hx hb dX2_decodeMany_107 ?_
            refine lv_topi (fun x_14 ex_14 => ?_)
            have tx_14 : x_14.toInt = x_8.toInt * 64 := v_mul ex_14 (by show -2147483648 ≤ x_8.toInt * 64; omega) (by show x_8.toInt * 64 < 2147483648; omega)
            refine lv_iload hx hb dX2_decodeMany_108 (lv_at hl 0 rfl) ?_
            refine lv_iadd hx hb dX2_decodeMany_110 ?_
            refine lv_topi (fun x_15 ex_15 => ?_)
            have tx_15 : x_15.toInt = x_14.toInt + r_11.toInt := v_add ex_15 (by show -2147483648 ≤ x_14.toInt + r_11.toInt; omega) (by show x_14.toInt + r_11.toInt < 2147483648; omega)
            refine lv_sipush (v := 128) hx hb dX2_decodeMany_111 (by decide) ?_
            refine lv_isub hx hb dX2_decodeMany_114 ?_
            refine lv_topi (fun x_16 ex_16 => ?_)
            have tx_16 : x_16.toInt = x_15.toInt - 128 := v_sub ex_16 (by show -2147483648 ≤ x_15.toInt - 128; omega) (by show x_15.toInt - 128 < 2147483648; omega)
            refine lv_istore (lv' := [(5, .int x_16), (7, .int r_11), (6, .int 1), (4, .int 2), (3, .int r_1), (0, .ref nu), (1, .int fr), (2, .int en)]) hx hb dX2_decodeMany_115 hl (by decide) rfl (fun ls hl => ?_)
            refine lv_iinc (v := 2) (lv' := [(6, .int 2), (5, .int x_16), (7, .int r_11), (4, .int 2), (3, .int r_1), (0, .ref nu), (1, .int fr), (2, .int en)]) hx hb dX2_decodeMany_117 hl (k := 2) rfl (by decide) (by decide) rfl (fun ls hl => ?_)
            refine lv_goto (tgt := 68) hx hb dX2_decodeMany_120 (by decide) ?_
            refine lv_iload hx hb dX2_decodeMany_68 (lv_at hl 0 rfl) ?_
            refine lv_iload hx hb dX2_decodeMany_70 (lv_at hl 3 rfl) ?_
            refine lv_icmp_ge (tgt := 123) hx hb dX2_decodeMany_72 (by decide) (fun c_17 => ?_) (fun c_17 => absurd c_17 (by decide))
            refine lv_iload hx hb dX2_decodeMany_123 (lv_at hl 1 rfl) ?_
            refine lv_iload hx hb dX2_decodeMany_125 (lv_at hl 3 rfl) ?_
            refine lv_iconst (v := 3) hx hb dX2_decodeMany_127 (by decide) ?_
            refine lv_icmp_ne (tgt := 137) hx hb dX2_decodeMany_128 (by decide) (fun c_18 => ?_) (fun c_18 => absurd c_18 (by decide))
            refine lv_sipush (v := 128) hx hb dX2_decodeMany_137 (by decide) ?_
            refine lv_icmp_lt (tgt := 147) hx hb dX2_decodeMany_140 (by decide) (fun c_19 => ?_) (fun c_19 => ?_)
            · have tc_19 : x_16.toInt < 128 := v_lt c_19
              refine lv_iconst (v := 0) hx hb dX2_decodeMany_147 (by decide) ?_
              refine lv_istore (lv' := [(6, .int 0), (5, .int x_16), (7, .int r_11), (4, .int 2), (3, .int r_1), (0, .ref nu), (1, .int fr), (2, .int en)]) hx hb dX2_decodeMany_148 hl (by decide) rfl (fun ls hl => ?_)
              refine lv_iload hx hb dX2_decodeMany_150 (lv_at hl 0 rfl) ?_
              refine lv_if_eq (tgt := 173) hx hb dX2_decodeMany_152 (by decide) (fun c_20 => ?_) (fun c_20 => absurd c_20 (by decide))
              refine lv_iconst (v := (-1)) hx hb dX2_decodeMany_173 (by decide) ?_
              exact kl_i (v := (-1)) hQQ hx hb hr hlocks hS dX2_decodeMany_174 ⟨⟨hP, hD⟩, Or.inr ⟨rfl, fun l x h => by have o1 := bt_c fu en.toInt (fr.toNatClampNeg + 1); have o2 := bt_c fu en.toInt (fr.toNatClampNeg + 2); unfold DMa DM at h; omega⟩⟩
            · have tc_19 : 128 ≤ x_16.toInt := v_nlt c_19
              refine lv_iconst (v := 1) hx hb dX2_decodeMany_143 (by decide) ?_
              refine lv_goto (tgt := 148) hx hb dX2_decodeMany_144 (by decide) ?_
              refine lv_istore (lv' := [(6, .int 1), (5, .int x_16), (7, .int r_11), (4, .int 2), (3, .int r_1), (0, .ref nu), (1, .int fr), (2, .int en)]) hx hb dX2_decodeMany_148 hl (by decide) rfl (fun ls hl => ?_)
              refine lv_iload hx hb dX2_decodeMany_150 (lv_at hl 0 rfl) ?_
              refine lv_if_eq (tgt := 173) hx hb dX2_decodeMany_152 (by decide) (fun c_21 => absurd c_21 (by decide)) (fun c_21 => ?_)
              refine lv_iload hx hb dX2_decodeMany_155 (lv_at hl 1 rfl) ?_
              refine kSN_i (rest := []) hcf (m_X11_isLetter l dC dI cI cS H.size x_16 ) ⟨va_cnB 1 hts gX2_decodeMany_X11_isLetter_n52 rfl rfl rfl hN52 (hts (.initialized RX11) (List.mem_of_getElem? (i := 9) rfl)) (by decide +kernel) ⟨Nat.le_of_ble_eq_true rfl, Nat.le_of_ble_eq_true rfl⟩, (hts (.static yX11_isLetter) (List.mem_of_getElem? (i := 8) rfl)), trivial⟩ kX_t hK hP hD hS hA [] [0, 1] rfl (by decide +kernel) rfl hl rfl (Nat.le_of_ble_eq_true rfl) dX2_decodeMany_157 ⟨Nat.le_of_ble_eq_true rfl, Nat.le_of_ble_eq_true rfl⟩ (fun r_22 H locs hB hJ hSn => ?_)
              obtain ⟨⟨hP1, hD1⟩, hf22_0, hf22_1⟩ := hB
              obtain ⟨hPn, hDn⟩ := hJ _ hP1 hD1 [(nu, .inr (5, [.ref au, .int lu])), (au, .inl (cI, cap, .inl fu))] rfl
              clear hP hD hS hJ hP1 hD1
              have hP := hPn
              have hD := hDn
              have hS := hSn
              clear hPn hDn hSn
              refine lv_if_eq (tgt := 173) hx hb dX2_decodeMany_160 (by decide) (fun c_23 => ?_) (fun c_23 => ?_)
              · have tc_23 : r_22.toInt = 0 := v_eq c_23
                refine lv_iconst (v := (-1)) hx hb dX2_decodeMany_173 (by decide) ?_
                exact kl_i (v := (-1)) hQQ hx hb hr hlocks hS dX2_decodeMany_174 ⟨⟨hP, hD⟩, Or.inr ⟨rfl, fun l x h => by have o1 := bt_c fu en.toInt (fr.toNatClampNeg + 1); have o2 := bt_c fu en.toInt (fr.toNatClampNeg + 2); unfold DMa DM at h; omega⟩⟩
              · have tc_23 : ¬ r_22.toInt = 0 := v_ne c_23
                refine lv_iload hx hb dX2_decodeMany_163 (lv_at hl 1 rfl) ?_
                refine lv_iload hx hb dX2_decodeMany_165 (lv_at hl 3 rfl) ?_
                refine kS_i (rest := []) hcf (f_X2_found l dC dI cI cS H.size x_16 2 (by omega) (by decide)) kc_X2_found gX2_decodeMany_X2_found rfl rfl ⟨Nat.le_of_ble_eq_true rfl, Nat.le_of_ble_eq_true rfl⟩ kX_t hK hP hD hS hA [] [0, 1] rfl (by decide +kernel) rfl hl rfl (Nat.le_of_ble_eq_true rfl) dX2_decodeMany_167 ⟨Nat.le_of_ble_eq_true rfl, Nat.le_of_ble_eq_true rfl⟩ (fun r_24 H locs hB hJ hSn => ?_)
                obtain ⟨⟨hP1, hD1⟩, hf24_0⟩ := hB
                obtain ⟨hPn, hDn⟩ := hJ _ hP1 hD1 [(nu, .inr (5, [.ref au, .int lu])), (au, .inl (cI, cap, .inl fu))] rfl
                clear hP hD hS hJ hP1 hD1
                have hP := hPn
                have hD := hDn
                have hS := hSn
                clear hPn hDn hSn
                refine lv_goto (tgt := 174) hx hb dX2_decodeMany_170 (by decide) ?_
                exact kl_i (v := r_24) hQQ hx hb hr hlocks hS dX2_decodeMany_174 ⟨⟨hP, hD⟩, Or.inl ⟨2, x_16, by unfold DMa DM; omega, by omega, by omega, by omega⟩⟩
          · have tc_13 : 191 < r_11.toInt := v_nle c_13
            refine lv_iconst (v := (-1)) hx hb dX2_decodeMany_101 (by decide) ?_
            exact kl_i (v := (-1)) hQQ hx hb hr hlocks hS dX2_decodeMany_102 ⟨⟨hP, hD⟩, Or.inr ⟨rfl, fun l x h => by have o1 := bt_c fu en.toInt (fr.toNatClampNeg + 1); have o2 := bt_c fu en.toInt (fr.toNatClampNeg + 2); unfold DMa DM at h; omega⟩⟩
      · have tc_6 : x_5.toInt < 2 := v_nle c_6
        refine lv_iconst (v := (-1)) hx hb dX2_decodeMany_42 (by decide) ?_
        exact kl_i (v := (-1)) hQQ hx hb hr hlocks hS dX2_decodeMany_43 ⟨⟨hP, hD⟩, Or.inr ⟨rfl, fun l x h => by have o1 := bt_c fu en.toInt (fr.toNatClampNeg + 1); have o2 := bt_c fu en.toInt (fr.toNatClampNeg + 2); unfold DMa DM at h; omega⟩⟩
  · have tc_2 : 224 ≤ r_1.toInt := v_nlt c_2
    refine lv_iconst (v := 3) hx hb dX2_decodeMany_13 (by decide) ?_
    refine lv_goto (tgt := 18) hx hb dX2_decodeMany_14 (by decide) ?_
    refine lv_istore (lv' := [(4, .int 3), (3, .int r_1), (0, .ref nu), (1, .int fr), (2, .int en)]) hx hb dX2_decodeMany_18 hl (by decide) rfl (fun ls hl => ?_)
    refine lv_iload_n hx hb dX2_decodeMany_20 rfl (lv_at hl 1 rfl) ?_
    refine lv_sipush (v := 192) hx hb dX2_decodeMany_21 (by decide) ?_
    refine lv_icmp_lt (tgt := 42) hx hb dX2_decodeMany_24 (by decide) (fun c_25 => by exfalso; have tc_25 : r_1.toInt < 192 := v_lt c_25; omega) (fun c_25 => ?_)
    have tc_25 : 192 ≤ r_1.toInt := v_nlt c_25
    refine lv_iload_n hx hb dX2_decodeMany_27 rfl (lv_at hl 1 rfl) ?_
    refine lv_sipush (v := 239) hx hb dX2_decodeMany_28 (by decide) ?_
    refine lv_icmp_gt (tgt := 42) hx hb dX2_decodeMany_31 (by decide) (fun c_26 => ?_) (fun c_26 => ?_)
    · have tc_26 : 239 < r_1.toInt := v_lt c_26
      refine lv_iconst (v := (-1)) hx hb dX2_decodeMany_42 (by decide) ?_
      exact kl_i (v := (-1)) hQQ hx hb hr hlocks hS dX2_decodeMany_43 ⟨⟨hP, hD⟩, Or.inr ⟨rfl, fun l x h => by have o1 := bt_c fu en.toInt (fr.toNatClampNeg + 1); have o2 := bt_c fu en.toInt (fr.toNatClampNeg + 2); unfold DMa DM at h; omega⟩⟩
    · have tc_26 : r_1.toInt ≤ 239 := v_nlt c_26
      refine lv_iload hx hb dX2_decodeMany_34 (lv_at hl 0 rfl) ?_
      refine lv_iload_n hx hb dX2_decodeMany_36 rfl (lv_at hl 4 rfl) ?_
      refine lv_iload_n hx hb dX2_decodeMany_37 rfl (lv_at hl 3 rfl) ?_
      refine lv_isub hx hb dX2_decodeMany_38 ?_
      refine lv_topi (fun x_27 ex_27 => ?_)
      have tx_27 : x_27.toInt = en.toInt - fr.toInt := v_sub ex_27 (by show -2147483648 ≤ en.toInt - fr.toInt; omega) (by show en.toInt - fr.toInt < 2147483648; omega)
      refine lv_icmp_le (tgt := 44) hx hb dX2_decodeMany_39 (by decide) (fun c_28 => ?_) (fun c_28 => ?_)
      · have tc_28 : 3 ≤ x_27.toInt := v_le c_28
        refine lv_iload hx hb dX2_decodeMany_44 (lv_at hl 0 rfl) ?_
        refine lv_iconst (v := 3) hx hb dX2_decodeMany_46 (by decide) ?_
        refine lv_icmp_ne (tgt := 58) hx hb dX2_decodeMany_47 (by decide) (fun c_29 => absurd c_29 (by decide)) (fun c_29 => ?_)
        refine lv_iload_n hx hb dX2_decodeMany_50 rfl (lv_at hl 1 rfl) ?_
        refine lv_sipush (v := 224) hx hb dX2_decodeMany_51 (by decide) ?_
        refine lv_isub hx hb dX2_decodeMany_54 ?_
        refine lv_topi (fun x_30 ex_30 => ?_)
        have tx_30 : x_30.toInt = r_1.toInt - 224 := v_sub ex_30 (by show -2147483648 ≤ r_1.toInt - 224; omega) (by show r_1.toInt - 224 < 2147483648; omega)
        refine lv_goto (tgt := 63) hx hb dX2_decodeMany_55 (by decide) ?_
        refine lv_istore (lv' := [(5, .int x_30), (4, .int 3), (3, .int r_1), (0, .ref nu), (1, .int fr), (2, .int en)]) hx hb dX2_decodeMany_63 hl (by decide) rfl (fun ls hl => ?_)
        refine lv_iconst (v := 1) hx hb dX2_decodeMany_65 (by decide) ?_
        refine lv_istore (lv' := [(6, .int 1), (5, .int x_30), (4, .int 3), (3, .int r_1), (0, .ref nu), (1, .int fr), (2, .int en)]) hx hb dX2_decodeMany_66 hl (by decide) rfl (fun ls hl => ?_)
        refine lv_iload hx hb dX2_decodeMany_68 (lv_at hl 0 rfl) ?_
        refine lv_iload hx hb dX2_decodeMany_70 (lv_at hl 2 rfl) ?_
        refine lv_icmp_ge (tgt := 123) hx hb dX2_decodeMany_72 (by decide) (fun c_31 => absurd c_31 (by decide)) (fun c_31 => ?_)
        refine lv_aload_n hx hb dX2_decodeMany_75 rfl (lv_at hl 4 rfl) ?_
        refine lv_iload_n hx hb dX2_decodeMany_76 rfl (lv_at hl 5 rfl) ?_
        refine lv_iload hx hb dX2_decodeMany_77 (lv_at hl 0 rfl) ?_
        refine lv_iadd hx hb dX2_decodeMany_79 ?_
        refine lv_topi (fun x_32 ex_32 => ?_)
        have tx_32 : x_32.toInt = fr.toInt + 1 := v_addR (l2 := 1) (h2 := 1) ex_32 g_fr (by decide) (by decide) (by decide)
        refine kV_i (rest := []) (q0 := 0) (ci := 5) hcf (m_X5_get l dC dI cI cS H.size nu au cap lu fu x_32 (g_lu) (by omega)) kc_X5_get gX2_decodeMany_X5_get rfl rfl rfl ⟨Nat.le_of_ble_eq_true rfl, Nat.le_of_ble_eq_true rfl⟩ kX_t hK hP hD hS hA [0, 1] [] rfl (by decide +kernel) rfl rfl rfl hl rfl (Nat.le_of_ble_eq_true rfl) dX2_decodeMany_80 ⟨Nat.le_of_ble_eq_true rfl, Nat.le_of_ble_eq_true rfl⟩ (fun r_33 H locs hB hJ hSn => ?_)
        obtain ⟨⟨hP1, hD1⟩, hf33_0⟩ := hB
        obtain ⟨hPn, hDn⟩ := hJ _ hP1 hD1 [(nu, .inr (5, [.ref au, .int lu])), (au, .inl (cI, cap, .inl fu))] rfl
        clear hP hD hS hJ hP1 hD1
        have hP := hPn
        have hD := hDn
        have hS := hSn
        clear hPn hDn hSn
        have hb33 : r_33.toInt = bt fu en.toInt (fr.toNatClampNeg + 1) := get_bt (k := fr.toNatClampNeg + 1) hf33_0 (by omega) (by omega) hen
        refine lv_istore (lv' := [(7, .int r_33), (6, .int 1), (5, .int x_30), (4, .int 3), (3, .int r_1), (0, .ref nu), (1, .int fr), (2, .int en)]) hx hb dX2_decodeMany_83 hl (by decide) rfl (fun ls hl => ?_)
        refine lv_iload hx hb dX2_decodeMany_85 (lv_at hl 0 rfl) ?_
        refine lv_sipush (v := 128) hx hb dX2_decodeMany_87 (by decide) ?_
        refine lv_icmp_lt (tgt := 101) hx hb dX2_decodeMany_90 (by decide) (fun c_34 => ?_) (fun c_34 => ?_)
        · have tc_34 : r_33.toInt < 128 := v_lt c_34
          refine lv_iconst (v := (-1)) hx hb dX2_decodeMany_101 (by decide) ?_
          exact kl_i (v := (-1)) hQQ hx hb hr hlocks hS dX2_decodeMany_102 ⟨⟨hP, hD⟩, Or.inr ⟨rfl, fun l x h => by have o1 := bt_c fu en.toInt (fr.toNatClampNeg + 1); have o2 := bt_c fu en.toInt (fr.toNatClampNeg + 2); unfold DMa DM at h; omega⟩⟩
        · have tc_34 : 128 ≤ r_33.toInt := v_nlt c_34
          refine lv_iload hx hb dX2_decodeMany_93 (lv_at hl 0 rfl) ?_
          refine lv_sipush (v := 191) hx hb dX2_decodeMany_95 (by decide) ?_
          refine lv_icmp_le (tgt := 103) hx hb dX2_decodeMany_98 (by decide) (fun c_35 => ?_) (fun c_35 => ?_)
          · have tc_35 : r_33.toInt ≤ 191 := v_le c_35
            refine lv_iload hx hb dX2_decodeMany_103 (lv_at hl 2 rfl) ?_
            refine lv_bipush (v := 64) hx hb dX2_decodeMany_105 (by decide) ?_
            refine lv_imul hx hb dX2_decodeMany_107 ?_
            refine lv_topi (fun x_36 ex_36 => ?_)
            have tx_36 : x_36.toInt = x_30.toInt * 64 := v_mul ex_36 (by show -2147483648 ≤ x_30.toInt * 64; omega) (by show x_30.toInt * 64 < 2147483648; omega)
            refine lv_iload hx hb dX2_decodeMany_108 (lv_at hl 0 rfl) ?_
            refine lv_iadd hx hb dX2_decodeMany_110 ?_
            refine lv_topi (fun x_37 ex_37 => ?_)
            have tx_37 : x_37.toInt = x_36.toInt + r_33.toInt := v_add ex_37 (by show -2147483648 ≤ x_36.toInt + r_33.toInt; omega) (by show x_36.toInt + r_33.toInt < 2147483648; omega)
            refine lv_sipush (v := 128) hx hb dX2_decodeMany_111 (by decide) ?_
            refine lv_isub hx hb dX2_decodeMany_114 ?_
            refine lv_topi (fun x_38 ex_38 => ?_)
            have tx_38 : x_38.toInt = x_37.toInt - 128 := v_sub ex_38 (by show -2147483648 ≤ x_37.toInt - 128; omega) (by show x_37.toInt - 128 < 2147483648; omega)
            refine lv_istore (lv' := [(5, .int x_38), (7, .int r_33), (6, .int 1), (4, .int 3), (3, .int r_1), (0, .ref nu), (1, .int fr), (2, .int en)]) hx hb dX2_decodeMany_115 hl (by decide) rfl (fun ls hl => ?_)
            refine lv_iinc (v := 2) (lv' := [(6, .int 2), (5, .int x_38), (7, .int r_33), (4, .int 3), (3, .int r_1), (0, .ref nu), (1, .int fr), (2, .int en)]) hx hb dX2_decodeMany_117 hl (k := 2) rfl (by decide) (by decide) rfl (fun ls hl => ?_)
            refine lv_goto (tgt := 68) hx hb dX2_decodeMany_120 (by decide) ?_
            refine lv_iload hx hb dX2_decodeMany_68 (lv_at hl 0 rfl) ?_
            refine lv_iload hx hb dX2_decodeMany_70 (lv_at hl 3 rfl) ?_
            refine lv_icmp_ge (tgt := 123) hx hb dX2_decodeMany_72 (by decide) (fun c_39 => absurd c_39 (by decide)) (fun c_39 => ?_)
            refine lv_aload_n hx hb dX2_decodeMany_75 rfl (lv_at hl 5 rfl) ?_
            refine lv_iload_n hx hb dX2_decodeMany_76 rfl (lv_at hl 6 rfl) ?_
            refine lv_iload hx hb dX2_decodeMany_77 (lv_at hl 0 rfl) ?_
            refine lv_iadd hx hb dX2_decodeMany_79 ?_
            refine lv_topi (fun x_40 ex_40 => ?_)
            have tx_40 : x_40.toInt = fr.toInt + 2 := v_addR (l2 := 2) (h2 := 2) ex_40 g_fr (by decide) (by decide) (by decide)
            refine kV_i (rest := []) (q0 := 0) (ci := 5) hcf (m_X5_get l dC dI cI cS H.size nu au cap lu fu x_40 (g_lu) (by omega)) kc_X5_get gX2_decodeMany_X5_get rfl rfl rfl ⟨Nat.le_of_ble_eq_true rfl, Nat.le_of_ble_eq_true rfl⟩ kX_t hK hP hD hS hA [0, 1] [] rfl (by decide +kernel) rfl rfl rfl hl rfl (Nat.le_of_ble_eq_true rfl) dX2_decodeMany_80 ⟨Nat.le_of_ble_eq_true rfl, Nat.le_of_ble_eq_true rfl⟩ (fun r_41 H locs hB hJ hSn => ?_)
            obtain ⟨⟨hP1, hD1⟩, hf41_0⟩ := hB
            obtain ⟨hPn, hDn⟩ := hJ _ hP1 hD1 [(nu, .inr (5, [.ref au, .int lu])), (au, .inl (cI, cap, .inl fu))] rfl
            clear hP hD hS hJ hP1 hD1
            have hP := hPn
            have hD := hDn
            have hS := hSn
            clear hPn hDn hSn
            have hb41 : r_41.toInt = bt fu en.toInt (fr.toNatClampNeg + 2) := get_bt (k := fr.toNatClampNeg + 2) hf41_0 (by omega) (by omega) hen
            refine lv_istore (lv' := [(7, .int r_41), (6, .int 2), (5, .int x_38), (4, .int 3), (3, .int r_1), (0, .ref nu), (1, .int fr), (2, .int en)]) hx hb dX2_decodeMany_83 hl (by decide) rfl (fun ls hl => ?_)
            refine lv_iload hx hb dX2_decodeMany_85 (lv_at hl 0 rfl) ?_
            refine lv_sipush (v := 128) hx hb dX2_decodeMany_87 (by decide) ?_
            refine lv_icmp_lt (tgt := 101) hx hb dX2_decodeMany_90 (by decide) (fun c_42 => ?_) (fun c_42 => ?_)
            · have tc_42 : r_41.toInt < 128 := v_lt c_42
              refine lv_iconst (v := (-1)) hx hb dX2_decodeMany_101 (by decide) ?_
              exact kl_i (v := (-1)) hQQ hx hb hr hlocks hS dX2_decodeMany_102 ⟨⟨hP, hD⟩, Or.inr ⟨rfl, fun l x h => by have o1 := bt_c fu en.toInt (fr.toNatClampNeg + 1); have o2 := bt_c fu en.toInt (fr.toNatClampNeg + 2); unfold DMa DM at h; omega⟩⟩
            · have tc_42 : 128 ≤ r_41.toInt := v_nlt c_42
              refine lv_iload hx hb dX2_decodeMany_93 (lv_at hl 0 rfl) ?_
              refine lv_sipush (v := 191) hx hb dX2_decodeMany_95 (by decide) ?_
              refine lv_icmp_le (tgt := 103) hx hb dX2_decodeMany_98 (by decide) (fun c_43 => ?_) (fun c_43 => ?_)
              · have tc_43 : r_41.toInt ≤ 191 := v_le c_43
                refine lv_iload hx hb dX2_decodeMany_103 (lv_at hl 2 rfl) ?_
                refine lv_bipush (v := 64) hx hb dX2_decodeMany_105 (by decide) ?_
                refine lv_imul hx hb dX2_decodeMany_107 ?_
                refine lv_topi (fun x_44 ex_44 => ?_)
                have tx_44 : x_44.toInt = x_38.toInt * 64 := v_mul ex_44 (by show -2147483648 ≤ x_38.toInt * 64; omega) (by show x_38.toInt * 64 < 2147483648; omega)
                refine lv_iload hx hb dX2_decodeMany_108 (lv_at hl 0 rfl) ?_
                refine lv_iadd hx hb dX2_decodeMany_110 ?_
                refine lv_topi (fun x_45 ex_45 => ?_)
                have tx_45 : x_45.toInt = x_44.toInt + r_41.toInt := v_add ex_45 (by show -2147483648 ≤ x_44.toInt + r_41.toInt; omega) (by show x_44.toInt + r_41.toInt < 2147483648; omega)
                refine lv_sipush (v := 128) hx hb dX2_decodeMany_111 (by decide) ?_
                refine lv_isub hx hb dX2_decodeMany_114 ?_
                refine lv_topi (fun x_46 ex_46 => ?_)
                have tx_46 : x_46.toInt = x_45.toInt - 128 := v_sub ex_46 (by show -2147483648 ≤ x_45.toInt - 128; omega) (by show x_45.toInt - 128 < 2147483648; omega)
                refine lv_istore (lv' := [(5, .int x_46), (7, .int r_41), (6, .int 2), (4, .int 3), (3, .int r_1), (0, .ref nu), (1, .int fr), (2, .int en)]) hx hb dX2_decodeMany_115 hl (by decide) rfl (fun ls hl => ?_)
                refine lv_iinc (v := 3) (lv' := [(6, .int 3), (5, .int x_46), (7, .int r_41), (4, .int 3), (3, .int r_1), (0, .ref nu), (1, .int fr), (2, .int en)]) hx hb dX2_decodeMany_117 hl (k := 2) rfl (by decide) (by decide) rfl (fun ls hl => ?_)
                refine lv_goto (tgt := 68) hx hb dX2_decodeMany_120 (by decide) ?_
                refine lv_iload hx hb dX2_decodeMany_68 (lv_at hl 0 rfl) ?_
                refine lv_iload hx hb dX2_decodeMany_70 (lv_at hl 3 rfl) ?_
                refine lv_icmp_ge (tgt := 123) hx hb dX2_decodeMany_72 (by decide) (fun c_47 => ?_) (fun c_47 => absurd c_47 (by decide))
                refine lv_iload hx hb dX2_decodeMany_123 (lv_at hl 1 rfl) ?_
                refine lv_iload hx hb dX2_decodeMany_125 (lv_at hl 3 rfl) ?_
                refine lv_iconst (v := 3) hx hb dX2_decodeMany_127 (by decide) ?_
                refine lv_icmp_ne (tgt := 137) hx hb dX2_decodeMany_128 (by decide) (fun c_48 => absurd c_48 (by decide)) (fun c_48 => ?_)
                refine lv_sipush (v := 2048) hx hb dX2_decodeMany_131 (by decide) ?_
                refine lv_goto (tgt := 140) hx hb dX2_decodeMany_134 (by decide) ?_
                refine lv_icmp_lt (tgt := 147) hx hb dX2_decodeMany_140 (by decide) (fun c_49 => ?_) (fun c_49 => ?_)
                · have tc_49 : x_46.toInt < 2048 := v_lt c_49
                  refine lv_iconst (v := 0) hx hb dX2_decodeMany_147 (by decide) ?_
                  refine lv_istore (lv' := [(6, .int 0), (5, .int x_46), (7, .int r_41), (4, .int 3), (3, .int r_1), (0, .ref nu), (1, .int fr), (2, .int en)]) hx hb dX2_decodeMany_148 hl (by decide) rfl (fun ls hl => ?_)
                  refine lv_iload hx hb dX2_decodeMany_150 (lv_at hl 0 rfl) ?_
                  refine lv_if_eq (tgt := 173) hx hb dX2_decodeMany_152 (by decide) (fun c_50 => ?_) (fun c_50 => absurd c_50 (by decide))
                  refine lv_iconst (v := (-1)) hx hb dX2_decodeMany_173 (by decide) ?_
                  exact kl_i (v := (-1)) hQQ hx hb hr hlocks hS dX2_decodeMany_174 ⟨⟨hP, hD⟩, Or.inr ⟨rfl, fun l x h => by have o1 := bt_c fu en.toInt (fr.toNatClampNeg + 1); have o2 := bt_c fu en.toInt (fr.toNatClampNeg + 2); unfold DMa DM at h; omega⟩⟩
                · have tc_49 : 2048 ≤ x_46.toInt := v_nlt c_49
                  refine lv_iconst (v := 1) hx hb dX2_decodeMany_143 (by decide) ?_
                  refine lv_goto (tgt := 148) hx hb dX2_decodeMany_144 (by decide) ?_
                  refine lv_istore (lv' := [(6, .int 1), (5, .int x_46), (7, .int r_41), (4, .int 3), (3, .int r_1), (0, .ref nu), (1, .int fr), (2, .int en)]) hx hb dX2_decodeMany_148 hl (by decide) rfl (fun ls hl => ?_)
                  refine lv_iload hx hb dX2_decodeMany_150 (lv_at hl 0 rfl) ?_
                  refine lv_if_eq (tgt := 173) hx hb dX2_decodeMany_152 (by decide) (fun c_51 => absurd c_51 (by decide)) (fun c_51 => ?_)
                  refine lv_iload hx hb dX2_decodeMany_155 (lv_at hl 1 rfl) ?_
                  refine kSN_i (rest := []) hcf (m_X11_isLetter l dC dI cI cS H.size x_46 ) ⟨va_cnB 1 hts gX2_decodeMany_X11_isLetter_n52 rfl rfl rfl hN52 (hts (.initialized RX11) (List.mem_of_getElem? (i := 9) rfl)) (by decide +kernel) ⟨Nat.le_of_ble_eq_true rfl, Nat.le_of_ble_eq_true rfl⟩, (hts (.static yX11_isLetter) (List.mem_of_getElem? (i := 8) rfl)), trivial⟩ kX_t hK hP hD hS hA [] [0, 1] rfl (by decide +kernel) rfl hl rfl (Nat.le_of_ble_eq_true rfl) dX2_decodeMany_157 ⟨Nat.le_of_ble_eq_true rfl, Nat.le_of_ble_eq_true rfl⟩ (fun r_52 H locs hB hJ hSn => ?_)
                  obtain ⟨⟨hP1, hD1⟩, hf52_0, hf52_1⟩ := hB
                  obtain ⟨hPn, hDn⟩ := hJ _ hP1 hD1 [(nu, .inr (5, [.ref au, .int lu])), (au, .inl (cI, cap, .inl fu))] rfl
                  clear hP hD hS hJ hP1 hD1
                  have hP := hPn
                  have hD := hDn
                  have hS := hSn
                  clear hPn hDn hSn
                  refine lv_if_eq (tgt := 173) hx hb dX2_decodeMany_160 (by decide) (fun c_53 => ?_) (fun c_53 => ?_)
                  · have tc_53 : r_52.toInt = 0 := v_eq c_53
                    refine lv_iconst (v := (-1)) hx hb dX2_decodeMany_173 (by decide) ?_
                    exact kl_i (v := (-1)) hQQ hx hb hr hlocks hS dX2_decodeMany_174 ⟨⟨hP, hD⟩, Or.inr ⟨rfl, fun l x h => by have o1 := bt_c fu en.toInt (fr.toNatClampNeg + 1); have o2 := bt_c fu en.toInt (fr.toNatClampNeg + 2); unfold DMa DM at h; omega⟩⟩
                  · have tc_53 : ¬ r_52.toInt = 0 := v_ne c_53
                    refine lv_iload hx hb dX2_decodeMany_163 (lv_at hl 1 rfl) ?_
                    refine lv_iload hx hb dX2_decodeMany_165 (lv_at hl 3 rfl) ?_
                    refine kS_i (rest := []) hcf (f_X2_found l dC dI cI cS H.size x_46 3 (by omega) (by decide)) kc_X2_found gX2_decodeMany_X2_found rfl rfl ⟨Nat.le_of_ble_eq_true rfl, Nat.le_of_ble_eq_true rfl⟩ kX_t hK hP hD hS hA [] [0, 1] rfl (by decide +kernel) rfl hl rfl (Nat.le_of_ble_eq_true rfl) dX2_decodeMany_167 ⟨Nat.le_of_ble_eq_true rfl, Nat.le_of_ble_eq_true rfl⟩ (fun r_54 H locs hB hJ hSn => ?_)
                    obtain ⟨⟨hP1, hD1⟩, hf54_0⟩ := hB
                    obtain ⟨hPn, hDn⟩ := hJ _ hP1 hD1 [(nu, .inr (5, [.ref au, .int lu])), (au, .inl (cI, cap, .inl fu))] rfl
                    clear hP hD hS hJ hP1 hD1
                    have hP := hPn
                    have hD := hDn
                    have hS := hSn
                    clear hPn hDn hSn
                    refine lv_goto (tgt := 174) hx hb dX2_decodeMany_170 (by decide) ?_
                    exact kl_i (v := r_54) hQQ hx hb hr hlocks hS dX2_decodeMany_174 ⟨⟨hP, hD⟩, Or.inl ⟨3, x_46, by unfold DMa DM; omega, by omega, by omega, by omega⟩⟩
              · have tc_43 : 191 < r_41.toInt := v_nle c_43
                refine lv_iconst (v := (-1)) hx hb dX2_decodeMany_101 (by decide) ?_
                exact kl_i (v := (-1)) hQQ hx hb hr hlocks hS dX2_decodeMany_102 ⟨⟨hP, hD⟩, Or.inr ⟨rfl, fun l x h => by have o1 := bt_c fu en.toInt (fr.toNatClampNeg + 1); have o2 := bt_c fu en.toInt (fr.toNatClampNeg + 2); unfold DMa DM at h; omega⟩⟩
          · have tc_35 : 191 < r_33.toInt := v_nle c_35
            refine lv_iconst (v := (-1)) hx hb dX2_decodeMany_101 (by decide) ?_
            exact kl_i (v := (-1)) hQQ hx hb hr hlocks hS dX2_decodeMany_102 ⟨⟨hP, hD⟩, Or.inr ⟨rfl, fun l x h => by have o1 := bt_c fu en.toInt (fr.toNatClampNeg + 1); have o2 := bt_c fu en.toInt (fr.toNatClampNeg + 2); unfold DMa DM at h; omega⟩⟩
      · have tc_28 : x_27.toInt < 3 := v_nle c_28
        refine lv_iconst (v := (-1)) hx hb dX2_decodeMany_42 (by decide) ?_
        exact kl_i (v := (-1)) hQQ hx hb hr hlocks hS dX2_decodeMany_43 ⟨⟨hP, hD⟩, Or.inr ⟨rfl, fun l x h => by have o1 := bt_c fu en.toInt (fr.toNatClampNeg + 1); have o2 := bt_c fu en.toInt (fr.toNatClampNeg + 2); unfold DMa DM at h; omega⟩⟩

set_option maxHeartbeats 40000000 in
set_option maxRecDepth 100000 in
theorem f_X2_decodeNumber (l : Launch) (dC : Nat → ClassId) (dI : Nat → Nat → Nat) (cI cS : ClassId) (sz : Nat) (nu : Nat) (au : Nat) (cap : Nat) (lu : Int32) (fu : Nat → Int32) (fr : Int32) (en : Int32) (g_lu : 0 ≤ lu.toInt ∧ lu.toInt ≤ (cap : Int)) (g_fr : 0 ≤ fr.toInt ∧ fr.toInt ≤ 2400) (hcap : cap ≤ 2400) (hen : en.toInt ≤ lu.toInt) (hfe : fr.toInt < en.toInt) : kMi l yX2_decodeNumber wsX2_decodeNumber ({ frames := 1, cells := 0, slots := 0, locals := 21 } : Room) [.ref nu, .int fr, .int en] sz (dC, dI) vwCl [(cI, .int), (cS, .short)] [(nu, .inr (5, [.ref au, .int lu])), (au, .inl (cI, cap, .inl fu))] (va_Nw (.methodLinkNest RX2 52 yX11_isLetter "TextMender")) 0 0 (fun (A : Nat → Prop) (r : Int32) (hh9 : Heap) => kPD (dC, dI) vwCl A [(nu, .inr (5, [.ref au, .int lu])), (au, .inl (cI, cap, .inl fu))] hh9 ∧ (F_dn r fu en.toInt fr.toNatClampNeg)) := by
  refine kMi_of (cc := cX2_decodeNumber) (maxL := 7) (ret := (some .int)) (lv := [(0, .ref nu), (1, .int fr), (2, .int en)]) (by decide +kernel) rfl rfl (Nat.le_of_ble_eq_true rfl) ?_
  intro p e s m below meth c A QQ ls hx hb hr hts hml hown hlocks hA hQQ hK hX hP hD hS hl
  have hown : s.vm.findClass RX2 = some m.cls := hown
  have hcf := k_cf hx hb hml hown hts
  have hN52 := hX
  have c0 := v_clamp (x := fr) (by omega)
  have z0 : (0 : Int32).toInt = 0 := rfl
  have z1 : (1 : Int32).toInt = 1 := rfl
  have z2 : (2 : Int32).toInt = 2 := rfl
  have z3 : (3 : Int32).toInt = 3 := rfl
  refine lv_aload_n hx hb dX2_decodeNumber_0 rfl (lv_at hl 0 rfl) ?_
  refine lv_iload_n hx hb dX2_decodeNumber_1 rfl (lv_at hl 1 rfl) ?_
  refine kV_i (rest := []) (q0 := 0) (ci := 5) hcf (m_X5_get l dC dI cI cS s.heap.size nu au cap lu fu fr (g_lu) (by omega)) kc_X5_get gX2_decodeNumber_X5_get rfl rfl rfl ⟨Nat.le_of_ble_eq_true rfl, Nat.le_of_ble_eq_true rfl⟩ kX_t hK hP hD hS hA [0, 1] [] rfl (by decide +kernel) rfl rfl rfl hl rfl (Nat.le_of_ble_eq_true rfl) dX2_decodeNumber_2 ⟨Nat.le_of_ble_eq_true rfl, Nat.le_of_ble_eq_true rfl⟩ (fun r_1 H locs hB hJ hSn => ?_)
  obtain ⟨⟨hP1, hD1⟩, hf1_0⟩ := hB
  obtain ⟨hPn, hDn⟩ := hJ _ hP1 hD1 [(nu, .inr (5, [.ref au, .int lu])), (au, .inl (cI, cap, .inl fu))] rfl
  clear hP hD hS hJ hP1 hD1
  have hP := hPn
  have hD := hDn
  have hS := hSn
  clear hPn hDn hSn
  have hb1 : r_1.toInt = bt fu en.toInt fr.toNatClampNeg := get_bt (k := fr.toNatClampNeg) hf1_0 (by omega) (by omega) hen
  refine lv_bipush (v := 38) hx hb dX2_decodeNumber_5 (by decide) ?_
  refine lv_icmp_ne (tgt := 29) hx hb dX2_decodeNumber_7 (by decide) (fun c_2 => ?_) (fun c_2 => ?_)
  · have tc_2 : ¬ r_1.toInt = 38 := v_ne c_2
    refine lv_iconst (v := (-1)) hx hb dX2_decodeNumber_29 (by decide) ?_
    exact kl_i (v := (-1)) hQQ hx hb hr hlocks hS dX2_decodeNumber_30 ⟨⟨hP, hD⟩, Or.inr ⟨rfl, fun l x h => by have o1 := bt_c fu en.toInt (fr.toNatClampNeg + 1); unfold DNa DN at h; omega⟩⟩
  · have tc_2 : r_1.toInt = 38 := v_eq c_2
    refine lv_iload_n hx hb dX2_decodeNumber_10 rfl (lv_at hl 1 rfl) ?_
    refine lv_iconst (v := 1) hx hb dX2_decodeNumber_11 (by decide) ?_
    refine lv_iadd hx hb dX2_decodeNumber_12 ?_
    refine lv_topi (fun x_3 ex_3 => ?_)
    have tx_3 : x_3.toInt = fr.toInt + 1 := v_addR (l2 := 1) (h2 := 1) ex_3 g_fr (by decide) (by decide) (by decide)
    refine lv_iload_n hx hb dX2_decodeNumber_13 rfl (lv_at hl 2 rfl) ?_
    refine lv_icmp_ge (tgt := 29) hx hb dX2_decodeNumber_14 (by decide) (fun c_4 => ?_) (fun c_4 => ?_)
    · have tc_4 : en.toInt ≤ x_3.toInt := v_le c_4
      refine lv_iconst (v := (-1)) hx hb dX2_decodeNumber_29 (by decide) ?_
      exact kl_i (v := (-1)) hQQ hx hb hr hlocks hS dX2_decodeNumber_30 ⟨⟨hP, hD⟩, Or.inr ⟨rfl, fun l x h => by have o1 := bt_c fu en.toInt (fr.toNatClampNeg + 1); unfold DNa DN at h; omega⟩⟩
    · have tc_4 : x_3.toInt < en.toInt := v_nle c_4
      refine lv_aload_n hx hb dX2_decodeNumber_17 rfl (lv_at hl 0 rfl) ?_
      refine lv_iload_n hx hb dX2_decodeNumber_18 rfl (lv_at hl 1 rfl) ?_
      refine lv_iconst (v := 1) hx hb dX2_decodeNumber_19 (by decide) ?_
      refine lv_iadd hx hb dX2_decodeNumber_20 ?_
      refine lv_topi (fun x_5 ex_5 => ?_)
      have tx_5 : x_5.toInt = fr.toInt + 1 := v_addR (l2 := 1) (h2 := 1) ex_5 g_fr (by decide) (by decide) (by decide)
      refine kV_i (rest := []) (q0 := 0) (ci := 5) hcf (m_X5_get l dC dI cI cS H.size nu au cap lu fu x_5 (g_lu) (by omega)) kc_X5_get gX2_decodeNumber_X5_get rfl rfl rfl ⟨Nat.le_of_ble_eq_true rfl, Nat.le_of_ble_eq_true rfl⟩ kX_t hK hP hD hS hA [0, 1] [] rfl (by decide +kernel) rfl rfl rfl hl rfl (Nat.le_of_ble_eq_true rfl) dX2_decodeNumber_21 ⟨Nat.le_of_ble_eq_true rfl, Nat.le_of_ble_eq_true rfl⟩ (fun r_6 H locs hB hJ hSn => ?_)
      obtain ⟨⟨hP1, hD1⟩, hf6_0⟩ := hB
      obtain ⟨hPn, hDn⟩ := hJ _ hP1 hD1 [(nu, .inr (5, [.ref au, .int lu])), (au, .inl (cI, cap, .inl fu))] rfl
      clear hP hD hS hJ hP1 hD1
      have hP := hPn
      have hD := hDn
      have hS := hSn
      clear hPn hDn hSn
      have hb6 : r_6.toInt = bt fu en.toInt (fr.toNatClampNeg + 1) := get_bt (k := fr.toNatClampNeg + 1) hf6_0 (by omega) (by omega) hen
      refine lv_bipush (v := 35) hx hb dX2_decodeNumber_24 (by decide) ?_
      refine lv_icmp_eq (tgt := 31) hx hb dX2_decodeNumber_26 (by decide) (fun c_7 => ?_) (fun c_7 => ?_)
      · have tc_7 : r_6.toInt = 35 := v_eq c_7
        refine lv_iconst (v := 0) hx hb dX2_decodeNumber_31 (by decide) ?_
        refine lv_istore_n (lv' := [(3, .int 0), (0, .ref nu), (1, .int fr), (2, .int en)]) hx hb dX2_decodeNumber_32 rfl hl (by decide) rfl (fun ls hl => ?_)
        refine lv_iload_n hx hb dX2_decodeNumber_33 rfl (lv_at hl 2 rfl) ?_
        refine lv_iconst (v := 2) hx hb dX2_decodeNumber_34 (by decide) ?_
        refine lv_iadd hx hb dX2_decodeNumber_35 ?_
        refine lv_topi (fun x_8 ex_8 => ?_)
        have tx_8 : x_8.toInt = fr.toInt + 2 := v_addR (l2 := 2) (h2 := 2) ex_8 g_fr (by decide) (by decide) (by decide)
        refine lv_istore (lv' := [(4, .int x_8), (3, .int 0), (0, .ref nu), (1, .int fr), (2, .int en)]) hx hb dX2_decodeNumber_36 hl (by decide) rfl (fun ls hl => ?_)
        have LOOP_38 : ∀ (k_38 : Nat) (nb : Int32) (p_ : Int32) (H : Heap) (locs : List Loc) (ls : Array Slot), MSd (en.toInt - p_.toInt : Int) k_38 → (0 ≤ nb.toInt ∧ nb.toInt ≤ 999999) → (2 ≤ p_.toInt ∧ p_.toInt ≤ 2408) → (fr.toInt + 2 ≤ p_.toInt ∧ p_.toInt ≤ fr.toInt + 8) → (NI (bo fu en.toInt fr.toNatClampNeg) (p_.toInt - fr.toInt - 2).toNat nb.toInt) → va_P (dC, dI) vwCl [(nu, .inr (5, [.ref au, .int lu])), (au, .inl (cI, cap, .inl fu))] H → va_D A [(nu, .inr (5, [.ref au, .int lu])), (au, .inl (cI, cap, .inl fu))] → va_S A s.heap H locs → lv_has ls 7 [(4, .int p_), (3, .int nb), (0, .ref nu), (1, .int fr), (2, .int en)] → W p l e (headSpec wsX2_decodeNumber ({ frames := 1, cells := 0, slots := 0, locals := 21 } : Room)).room s m ([.ref nu, .int fr, .int en] : List Value).toArray below meth c H locs 0 0 (MQ below QQ ([.ref nu, .int fr, .int en] : List Value).toArray s 0 0 A) (F0 m 38 ls []) := by
          clear hP hD hS hl
          intro k_38
          induction k_38 with
          | zero =>
            intro nb p_ H locs ls hm_38 g_nb g_p_ hp2 hni hP hD hS hl
            exact ms_0 hm_38
          | succ k_38 ih_38 =>
            intro nb p_ H locs ls hm_38 g_nb g_p_ hp2 hni hP hD hS hl
            refine lv_iload hx hb dX2_decodeNumber_38 (lv_at hl 0 rfl) ?_
            refine lv_iload_n hx hb dX2_decodeNumber_40 rfl (lv_at hl 4 rfl) ?_
            refine lv_icmp_ge (tgt := 153) hx hb dX2_decodeNumber_41 (by decide) (fun c_9 => ?_) (fun c_9 => ?_)
            · have tc_9 : en.toInt ≤ p_.toInt := v_le c_9
              refine lv_iconst (v := (-1)) hx hb dX2_decodeNumber_153 (by decide) ?_
              exact kl_i (v := (-1)) hQQ hx hb hr hlocks hS dX2_decodeNumber_154 ⟨⟨hP, hD⟩, Or.inr ⟨rfl, by first | exact DN_no (B := bo fu en.toInt fr.toNatClampNeg) (next := -1) hni (bt_out (by omega)).symm (by omega) | exact DN_no (B := bo fu en.toInt fr.toNatClampNeg) hni rfl (Or.inr (Or.inr (Or.inl (by omega))))⟩⟩
            · have tc_9 : p_.toInt < en.toInt := v_nle c_9
              refine lv_iload hx hb dX2_decodeNumber_44 (lv_at hl 0 rfl) ?_
              refine lv_iload_n hx hb dX2_decodeNumber_46 rfl (lv_at hl 3 rfl) ?_
              refine lv_bipush (v := 8) hx hb dX2_decodeNumber_47 (by decide) ?_
              refine lv_iadd hx hb dX2_decodeNumber_49 ?_
              refine lv_topi (fun x_10 ex_10 => ?_)
              have tx_10 : x_10.toInt = fr.toInt + 8 := v_addR (l2 := 8) (h2 := 8) ex_10 g_fr (by decide) (by decide) (by decide)
              refine lv_icmp_ge (tgt := 153) hx hb dX2_decodeNumber_50 (by decide) (fun c_11 => ?_) (fun c_11 => ?_)
              · have tc_11 : x_10.toInt ≤ p_.toInt := v_le c_11
                refine lv_iconst (v := (-1)) hx hb dX2_decodeNumber_153 (by decide) ?_
                exact kl_i (v := (-1)) hQQ hx hb hr hlocks hS dX2_decodeNumber_154 ⟨⟨hP, hD⟩, Or.inr ⟨rfl, by first | exact DN_no (B := bo fu en.toInt fr.toNatClampNeg) (next := -1) hni (bt_out (by omega)).symm (by omega) | exact DN_no (B := bo fu en.toInt fr.toNatClampNeg) hni rfl (Or.inr (Or.inr (Or.inl (by omega))))⟩⟩
              · have tc_11 : p_.toInt < x_10.toInt := v_nle c_11
                have hnr := NI_r hni
                refine lv_aload_n hx hb dX2_decodeNumber_53 rfl (lv_at hl 2 rfl) ?_
                refine lv_iload hx hb dX2_decodeNumber_54 (lv_at hl 0 rfl) ?_
                refine kV_i (rest := []) (q0 := 0) (ci := 5) hcf (m_X5_get l dC dI cI cS H.size nu au cap lu fu p_ (g_lu) (by omega)) kc_X5_get gX2_decodeNumber_X5_get rfl rfl rfl ⟨Nat.le_of_ble_eq_true rfl, Nat.le_of_ble_eq_true rfl⟩ kX_t hK hP hD hS hA [0, 1] [] rfl (by decide +kernel) rfl rfl rfl hl rfl (Nat.le_of_ble_eq_true rfl) dX2_decodeNumber_56 ⟨Nat.le_of_ble_eq_true rfl, Nat.le_of_ble_eq_true rfl⟩ (fun r_12 H locs hB hJ hSn => ?_)
                obtain ⟨⟨hP1, hD1⟩, hf12_0⟩ := hB
                obtain ⟨hPn, hDn⟩ := hJ _ hP1 hD1 [(nu, .inr (5, [.ref au, .int lu])), (au, .inl (cI, cap, .inl fu))] rfl
                clear hP hD hS hJ hP1 hD1
                have hP := hPn
                have hD := hDn
                have hS := hSn
                clear hPn hDn hSn
                have hb12 : r_12.toInt = bo fu en.toInt fr.toNatClampNeg (2 + (p_.toInt - fr.toInt - 2).toNat) := get_bt (k := fr.toNatClampNeg + (2 + (p_.toInt - fr.toInt - 2).toNat)) hf12_0 (by omega) (by omega) hen
                refine lv_istore (lv' := [(5, .int r_12), (4, .int p_), (3, .int nb), (0, .ref nu), (1, .int fr), (2, .int en)]) hx hb dX2_decodeNumber_59 hl (by decide) rfl (fun ls hl => ?_)
                refine lv_iload hx hb dX2_decodeNumber_61 (lv_at hl 0 rfl) ?_
                refine lv_bipush (v := 59) hx hb dX2_decodeNumber_63 (by decide) ?_
                refine lv_icmp_ne (tgt := 97) hx hb dX2_decodeNumber_65 (by decide) (fun c_13 => ?_) (fun c_13 => ?_)
                · have tc_13 : ¬ r_12.toInt = 59 := v_ne c_13
                  refine lv_iload_n hx hb dX2_decodeNumber_97 rfl (lv_at hl 2 rfl) ?_
                  refine lv_if_ne (tgt := 112) hx hb dX2_decodeNumber_98 (by decide) (fun c_14 => ?_) (fun c_14 => ?_)
                  · have tc_14 : ¬ nb.toInt = 0 := v_ne c_14
                    refine lv_iconst (v := 0) hx hb dX2_decodeNumber_112 (by decide) ?_
                    refine lv_istore (lv' := [(6, .int 0), (5, .int r_12), (4, .int p_), (3, .int nb), (0, .ref nu), (1, .int fr), (2, .int en)]) hx hb dX2_decodeNumber_113 hl (by decide) rfl (fun ls hl => ?_)
                    refine lv_iload hx hb dX2_decodeNumber_115 (lv_at hl 1 rfl) ?_
                    refine lv_bipush (v := 48) hx hb dX2_decodeNumber_117 (by decide) ?_
                    refine lv_icmp_lt (tgt := 134) hx hb dX2_decodeNumber_119 (by decide) (fun c_15 => ?_) (fun c_15 => ?_)
                    · have tc_15 : r_12.toInt < 48 := v_lt c_15
                      refine lv_iconst (v := (-1)) hx hb dX2_decodeNumber_134 (by decide) ?_
                      exact kl_i (v := (-1)) hQQ hx hb hr hlocks hS dX2_decodeNumber_135 ⟨⟨hP, hD⟩, Or.inr ⟨rfl, DN_no (B := bo fu en.toInt fr.toNatClampNeg) hni hb12 (by omega)⟩⟩
                    · have tc_15 : 48 ≤ r_12.toInt := v_nlt c_15
                      refine lv_iload hx hb dX2_decodeNumber_122 (lv_at hl 1 rfl) ?_
                      refine lv_bipush (v := 57) hx hb dX2_decodeNumber_124 (by decide) ?_
                      refine lv_icmp_gt (tgt := 134) hx hb dX2_decodeNumber_126 (by decide) (fun c_16 => ?_) (fun c_16 => ?_)
                      · have tc_16 : 57 < r_12.toInt := v_lt c_16
                        refine lv_iconst (v := (-1)) hx hb dX2_decodeNumber_134 (by decide) ?_
                        exact kl_i (v := (-1)) hQQ hx hb hr hlocks hS dX2_decodeNumber_135 ⟨⟨hP, hD⟩, Or.inr ⟨rfl, DN_no (B := bo fu en.toInt fr.toNatClampNeg) hni hb12 (by omega)⟩⟩
                      · have tc_16 : r_12.toInt ≤ 57 := v_nlt c_16
                        refine lv_iload hx hb dX2_decodeNumber_129 (lv_at hl 0 rfl) ?_
                        refine lv_if_eq (tgt := 136) hx hb dX2_decodeNumber_131 (by decide) (fun c_17 => ?_) (fun c_17 => absurd c_17 (by decide))
                        refine lv_iload_n hx hb dX2_decodeNumber_136 rfl (lv_at hl 3 rfl) ?_
                        refine lv_bipush (v := 10) hx hb dX2_decodeNumber_137 (by decide) ?_
                        refine lv_imul hx hb dX2_decodeNumber_139 ?_
                        refine lv_topi (fun x_18 ex_18 => ?_)
                        have tx_18 : x_18.toInt = nb.toInt * 10 := v_mul ex_18 (by show -2147483648 ≤ nb.toInt * 10; omega) (by show nb.toInt * 10 < 2147483648; omega)
                        refine lv_iload hx hb dX2_decodeNumber_140 (lv_at hl 1 rfl) ?_
                        refine lv_iadd hx hb dX2_decodeNumber_142 ?_
                        refine lv_topi (fun x_19 ex_19 => ?_)
                        have tx_19 : x_19.toInt = x_18.toInt + r_12.toInt := v_add ex_19 (by show -2147483648 ≤ x_18.toInt + r_12.toInt; omega) (by show x_18.toInt + r_12.toInt < 2147483648; omega)
                        refine lv_bipush (v := 48) hx hb dX2_decodeNumber_143 (by decide) ?_
                        refine lv_isub hx hb dX2_decodeNumber_145 ?_
                        refine lv_topi (fun x_20 ex_20 => ?_)
                        have tx_20 : x_20.toInt = x_19.toInt - 48 := v_sub ex_20 (by show -2147483648 ≤ x_19.toInt - 48; omega) (by show x_19.toInt - 48 < 2147483648; omega)
                        refine lv_istore_n (lv' := [(3, .int x_20), (6, .int 0), (5, .int r_12), (4, .int p_), (0, .ref nu), (1, .int fr), (2, .int en)]) hx hb dX2_decodeNumber_146 rfl hl (by decide) rfl (fun ls hl => ?_)
                        obtain ⟨x_21, ex_21⟩ : ∃ y : Int32, y = p_ + 1 := ⟨_, rfl⟩
                        have tx_21 : x_21.toInt = p_.toInt + 1 := v_addR (l2 := 1) (h2 := 1) ex_21 g_p_ (by decide) (by decide) (by decide)
                        refine lv_iinc (v := x_21) (lv' := [(4, .int x_21), (3, .int x_20), (6, .int 0), (5, .int r_12), (0, .ref nu), (1, .int fr), (2, .int en)]) hx hb dX2_decodeNumber_147 hl (k := 3) rfl (by rw [ex_21]; rfl) (by decide) rfl (fun ls hl => ?_)
                        refine lv_goto (tgt := 38) hx hb dX2_decodeNumber_150 (by decide) ?_
                        exact ih_38 x_20 x_21 _ _ _ (ms_lt hm_38 (by show ((en.toInt - x_21.toInt : Int)) < en.toInt - p_.toInt; omega) (by show (0 : Int) < en.toInt - p_.toInt; omega)) (by show 0 ≤ x_20.toInt ∧ x_20.toInt ≤ 999999; omega) (by show 2 ≤ x_21.toInt ∧ x_21.toInt ≤ 2408; omega) (by show fr.toInt + 2 ≤ x_21.toInt ∧ x_21.toInt ≤ fr.toInt + 8; omega) (NI_s hni hb12 (by omega) (by omega) (by omega) (by omega) (by omega)) hP hD hS (lv_sub hl [0, 1, 4, 5, 6] rfl)
                  · have tc_14 : nb.toInt = 0 := v_eq c_14
                    refine lv_iload hx hb dX2_decodeNumber_101 (lv_at hl 0 rfl) ?_
                    refine lv_bipush (v := 48) hx hb dX2_decodeNumber_103 (by decide) ?_
                    refine lv_icmp_ne (tgt := 112) hx hb dX2_decodeNumber_105 (by decide) (fun c_22 => ?_) (fun c_22 => ?_)
                    · have tc_22 : ¬ r_12.toInt = 48 := v_ne c_22
                      refine lv_iconst (v := 0) hx hb dX2_decodeNumber_112 (by decide) ?_
                      refine lv_istore (lv' := [(6, .int 0), (5, .int r_12), (4, .int p_), (3, .int nb), (0, .ref nu), (1, .int fr), (2, .int en)]) hx hb dX2_decodeNumber_113 hl (by decide) rfl (fun ls hl => ?_)
                      refine lv_iload hx hb dX2_decodeNumber_115 (lv_at hl 1 rfl) ?_
                      refine lv_bipush (v := 48) hx hb dX2_decodeNumber_117 (by decide) ?_
                      refine lv_icmp_lt (tgt := 134) hx hb dX2_decodeNumber_119 (by decide) (fun c_23 => ?_) (fun c_23 => ?_)
                      · have tc_23 : r_12.toInt < 48 := v_lt c_23
                        refine lv_iconst (v := (-1)) hx hb dX2_decodeNumber_134 (by decide) ?_
                        exact kl_i (v := (-1)) hQQ hx hb hr hlocks hS dX2_decodeNumber_135 ⟨⟨hP, hD⟩, Or.inr ⟨rfl, DN_no (B := bo fu en.toInt fr.toNatClampNeg) hni hb12 (by omega)⟩⟩
                      · have tc_23 : 48 ≤ r_12.toInt := v_nlt c_23
                        refine lv_iload hx hb dX2_decodeNumber_122 (lv_at hl 1 rfl) ?_
                        refine lv_bipush (v := 57) hx hb dX2_decodeNumber_124 (by decide) ?_
                        refine lv_icmp_gt (tgt := 134) hx hb dX2_decodeNumber_126 (by decide) (fun c_24 => ?_) (fun c_24 => ?_)
                        · have tc_24 : 57 < r_12.toInt := v_lt c_24
                          refine lv_iconst (v := (-1)) hx hb dX2_decodeNumber_134 (by decide) ?_
                          exact kl_i (v := (-1)) hQQ hx hb hr hlocks hS dX2_decodeNumber_135 ⟨⟨hP, hD⟩, Or.inr ⟨rfl, DN_no (B := bo fu en.toInt fr.toNatClampNeg) hni hb12 (by omega)⟩⟩
                        · have tc_24 : r_12.toInt ≤ 57 := v_nlt c_24
                          refine lv_iload hx hb dX2_decodeNumber_129 (lv_at hl 0 rfl) ?_
                          refine lv_if_eq (tgt := 136) hx hb dX2_decodeNumber_131 (by decide) (fun c_25 => ?_) (fun c_25 => absurd c_25 (by decide))
                          refine lv_iload_n hx hb dX2_decodeNumber_136 rfl (lv_at hl 3 rfl) ?_
                          refine lv_bipush (v := 10) hx hb dX2_decodeNumber_137 (by decide) ?_
                          refine lv_imul hx hb dX2_decodeNumber_139 ?_
                          refine lv_topi (fun x_26 ex_26 => ?_)
                          have tx_26 : x_26.toInt = nb.toInt * 10 := v_mul ex_26 (by show -2147483648 ≤ nb.toInt * 10; omega) (by show nb.toInt * 10 < 2147483648; omega)
                          refine lv_iload hx hb dX2_decodeNumber_140 (lv_at hl 1 rfl) ?_
                          refine lv_iadd hx hb dX2_decodeNumber_142 ?_
                          refine lv_topi (fun x_27 ex_27 => ?_)
                          have tx_27 : x_27.toInt = x_26.toInt + r_12.toInt := v_add ex_27 (by show -2147483648 ≤ x_26.toInt + r_12.toInt; omega) (by show x_26.toInt + r_12.toInt < 2147483648; omega)
                          refine lv_bipush (v := 48) hx hb dX2_decodeNumber_143 (by decide) ?_
                          refine lv_isub hx hb dX2_decodeNumber_145 ?_
                          refine lv_topi (fun x_28 ex_28 => ?_)
                          have tx_28 : x_28.toInt = x_27.toInt - 48 := v_sub ex_28 (by show -2147483648 ≤ x_27.toInt - 48; omega) (by show x_27.toInt - 48 < 2147483648; omega)
                          refine lv_istore_n (lv' := [(3, .int x_28), (6, .int 0), (5, .int r_12), (4, .int p_), (0, .ref nu), (1, .int fr), (2, .int en)]) hx hb dX2_decodeNumber_146 rfl hl (by decide) rfl (fun ls hl => ?_)
                          obtain ⟨x_29, ex_29⟩ : ∃ y : Int32, y = p_ + 1 := ⟨_, rfl⟩
                          have tx_29 : x_29.toInt = p_.toInt + 1 := v_addR (l2 := 1) (h2 := 1) ex_29 g_p_ (by decide) (by decide) (by decide)
                          refine lv_iinc (v := x_29) (lv' := [(4, .int x_29), (3, .int x_28), (6, .int 0), (5, .int r_12), (0, .ref nu), (1, .int fr), (2, .int en)]) hx hb dX2_decodeNumber_147 hl (k := 3) rfl (by rw [ex_29]; rfl) (by decide) rfl (fun ls hl => ?_)
                          refine lv_goto (tgt := 38) hx hb dX2_decodeNumber_150 (by decide) ?_
                          exact ih_38 x_28 x_29 _ _ _ (ms_lt hm_38 (by show ((en.toInt - x_29.toInt : Int)) < en.toInt - p_.toInt; omega) (by show (0 : Int) < en.toInt - p_.toInt; omega)) (by show 0 ≤ x_28.toInt ∧ x_28.toInt ≤ 999999; omega) (by show 2 ≤ x_29.toInt ∧ x_29.toInt ≤ 2408; omega) (by show fr.toInt + 2 ≤ x_29.toInt ∧ x_29.toInt ≤ fr.toInt + 8; omega) (NI_s hni hb12 (by omega) (by omega) (by omega) (by omega) (by omega)) hP hD hS (lv_sub hl [0, 1, 4, 5, 6] rfl)
                    · have tc_22 : r_12.toInt = 48 := v_eq c_22
                      refine lv_iconst (v := 1) hx hb dX2_decodeNumber_108 (by decide) ?_
                      refine lv_goto (tgt := 113) hx hb dX2_decodeNumber_109 (by decide) ?_
                      refine lv_istore (lv' := [(6, .int 1), (5, .int r_12), (4, .int p_), (3, .int nb), (0, .ref nu), (1, .int fr), (2, .int en)]) hx hb dX2_decodeNumber_113 hl (by decide) rfl (fun ls hl => ?_)
                      refine lv_iload hx hb dX2_decodeNumber_115 (lv_at hl 1 rfl) ?_
                      refine lv_bipush (v := 48) hx hb dX2_decodeNumber_117 (by decide) ?_
                      refine lv_icmp_lt (tgt := 134) hx hb dX2_decodeNumber_119 (by decide) (fun c_30 => by exfalso; have tc_30 : r_12.toInt < 48 := v_lt c_30; omega) (fun c_30 => ?_)
                      have tc_30 : 48 ≤ r_12.toInt := v_nlt c_30
                      refine lv_iload hx hb dX2_decodeNumber_122 (lv_at hl 1 rfl) ?_
                      refine lv_bipush (v := 57) hx hb dX2_decodeNumber_124 (by decide) ?_
                      refine lv_icmp_gt (tgt := 134) hx hb dX2_decodeNumber_126 (by decide) (fun c_31 => by exfalso; have tc_31 : 57 < r_12.toInt := v_lt c_31; omega) (fun c_31 => ?_)
                      have tc_31 : r_12.toInt ≤ 57 := v_nlt c_31
                      refine lv_iload hx hb dX2_decodeNumber_129 (lv_at hl 0 rfl) ?_
                      refine lv_if_eq (tgt := 136) hx hb dX2_decodeNumber_131 (by decide) (fun c_32 => absurd c_32 (by decide)) (fun c_32 => ?_)
                      refine lv_iconst (v := (-1)) hx hb dX2_decodeNumber_134 (by decide) ?_
                      exact kl_i (v := (-1)) hQQ hx hb hr hlocks hS dX2_decodeNumber_135 ⟨⟨hP, hD⟩, Or.inr ⟨rfl, DN_no (B := bo fu en.toInt fr.toNatClampNeg) hni hb12 (by omega)⟩⟩
                · have tc_13 : r_12.toInt = 59 := v_eq c_13
                  refine lv_iload_n hx hb dX2_decodeNumber_68 rfl (lv_at hl 2 rfl) ?_
                  refine kSN_i (rest := []) hcf (m_X11_isLetter l dC dI cI cS H.size nb ) ⟨va_cnB 1 hts gX2_decodeNumber_X11_isLetter_n52 rfl rfl rfl hN52 (hts (.initialized RX11) (List.mem_of_getElem? (i := 9) rfl)) (by decide +kernel) ⟨Nat.le_of_ble_eq_true rfl, Nat.le_of_ble_eq_true rfl⟩, (hts (.static yX11_isLetter) (List.mem_of_getElem? (i := 8) rfl)), trivial⟩ kX_t hK hP hD hS hA [] [0, 1] rfl (by decide +kernel) rfl hl rfl (Nat.le_of_ble_eq_true rfl) dX2_decodeNumber_69 ⟨Nat.le_of_ble_eq_true rfl, Nat.le_of_ble_eq_true rfl⟩ (fun r_33 H locs hB hJ hSn => ?_)
                  obtain ⟨⟨hP1, hD1⟩, hf33_0, hf33_1⟩ := hB
                  obtain ⟨hPn, hDn⟩ := hJ _ hP1 hD1 [(nu, .inr (5, [.ref au, .int lu])), (au, .inl (cI, cap, .inl fu))] rfl
                  clear hP hD hS hJ hP1 hD1
                  have hP := hPn
                  have hD := hDn
                  have hS := hSn
                  clear hPn hDn hSn
                  refine lv_if_eq (tgt := 95) hx hb dX2_decodeNumber_72 (by decide) (fun c_34 => ?_) (fun c_34 => ?_)
                  · have tc_34 : r_33.toInt = 0 := v_eq c_34
                    refine lv_iconst (v := (-1)) hx hb dX2_decodeNumber_95 (by decide) ?_
                    exact kl_i (v := (-1)) hQQ hx hb hr hlocks hS dX2_decodeNumber_96 ⟨⟨hP, hD⟩, Or.inr ⟨rfl, DN_no (B := bo fu en.toInt fr.toNatClampNeg) hni hb12 (by omega)⟩⟩
                  · have tc_34 : ¬ r_33.toInt = 0 := v_ne c_34
                    refine lv_iload_n hx hb dX2_decodeNumber_75 rfl (lv_at hl 2 rfl) ?_
                    refine kS_i (rest := []) hcf (f_X2_isNumbered l dC dI cI cS H.size nb ) kc_X2_isNumbered gX2_decodeNumber_X2_isNumbered rfl rfl ⟨Nat.le_of_ble_eq_true rfl, Nat.le_of_ble_eq_true rfl⟩ kX_t hK hP hD hS hA [] [0, 1] rfl (by decide +kernel) rfl hl rfl (Nat.le_of_ble_eq_true rfl) dX2_decodeNumber_76 ⟨Nat.le_of_ble_eq_true rfl, Nat.le_of_ble_eq_true rfl⟩ (fun r_35 H locs hB hJ hSn => ?_)
                    obtain ⟨⟨hP1, hD1⟩, hf35_0, hf35_1⟩ := hB
                    obtain ⟨hPn, hDn⟩ := hJ _ hP1 hD1 [(nu, .inr (5, [.ref au, .int lu])), (au, .inl (cI, cap, .inl fu))] rfl
                    clear hP hD hS hJ hP1 hD1
                    have hP := hPn
                    have hD := hDn
                    have hS := hSn
                    clear hPn hDn hSn
                    refine lv_if_eq (tgt := 95) hx hb dX2_decodeNumber_79 (by decide) (fun c_36 => ?_) (fun c_36 => ?_)
                    · have tc_36 : r_35.toInt = 0 := v_eq c_36
                      refine lv_iconst (v := (-1)) hx hb dX2_decodeNumber_95 (by decide) ?_
                      exact kl_i (v := (-1)) hQQ hx hb hr hlocks hS dX2_decodeNumber_96 ⟨⟨hP, hD⟩, Or.inr ⟨rfl, DN_no (B := bo fu en.toInt fr.toNatClampNeg) hni hb12 (by omega)⟩⟩
                    · have tc_36 : ¬ r_35.toInt = 0 := v_ne c_36
                      refine lv_iload_n hx hb dX2_decodeNumber_82 rfl (lv_at hl 2 rfl) ?_
                      refine lv_iload hx hb dX2_decodeNumber_83 (lv_at hl 1 rfl) ?_
                      refine lv_iconst (v := 1) hx hb dX2_decodeNumber_85 (by decide) ?_
                      refine lv_iadd hx hb dX2_decodeNumber_86 ?_
                      refine lv_topi (fun x_37 ex_37 => ?_)
                      have tx_37 : x_37.toInt = p_.toInt + 1 := v_addR (l2 := 1) (h2 := 1) ex_37 g_p_ (by decide) (by decide) (by decide)
                      refine lv_iload_n hx hb dX2_decodeNumber_87 rfl (lv_at hl 4 rfl) ?_
                      refine lv_isub hx hb dX2_decodeNumber_88 ?_
                      refine lv_topi (fun x_38 ex_38 => ?_)
                      have tx_38 : x_38.toInt = x_37.toInt - fr.toInt := v_subR ex_38 (v_sumR (l := 3) (h := 2409) (l2 := 1) (h2 := 1) tx_37 g_p_ (by decide) (by decide) (by decide)) g_fr (by decide) (by decide)
                      refine kS_i (rest := []) hcf (f_X2_found l dC dI cI cS H.size nb x_38 (by omega) (by omega)) kc_X2_found gX2_decodeNumber_X2_found rfl rfl ⟨Nat.le_of_ble_eq_true rfl, Nat.le_of_ble_eq_true rfl⟩ kX_t hK hP hD hS hA [] [0, 1] rfl (by decide +kernel) rfl hl rfl (Nat.le_of_ble_eq_true rfl) dX2_decodeNumber_89 ⟨Nat.le_of_ble_eq_true rfl, Nat.le_of_ble_eq_true rfl⟩ (fun r_39 H locs hB hJ hSn => ?_)
                      obtain ⟨⟨hP1, hD1⟩, hf39_0⟩ := hB
                      obtain ⟨hPn, hDn⟩ := hJ _ hP1 hD1 [(nu, .inr (5, [.ref au, .int lu])), (au, .inl (cI, cap, .inl fu))] rfl
                      clear hP hD hS hJ hP1 hD1
                      have hP := hPn
                      have hD := hDn
                      have hS := hSn
                      clear hPn hDn hSn
                      refine lv_goto (tgt := 96) hx hb dX2_decodeNumber_92 (by decide) ?_
                      exact kl_i (v := r_39) hQQ hx hb hr hlocks hS dX2_decodeNumber_96 ⟨⟨hP, hD⟩, Or.inl ⟨(p_.toInt - fr.toInt - 2).toNat + 3, nb, DN_of (B := bo fu en.toInt fr.toNatClampNeg) hni (by rw [← hb12]; omega) (by show bt fu en.toInt fr.toNatClampNeg = 38; omega) (by show bt fu en.toInt (fr.toNatClampNeg + 1) = 35; omega) (by omega) (by omega) (by omega) (by omega), by omega, by omega, by omega⟩⟩
        exact LOOP_38 _ 0 x_8 _ _ _ (ms_s _) (by decide) (v_rr (v_sumR (l := 2) (h := 2402) (l2 := 2) (h2 := 2) tx_8 g_fr (by decide) (by decide) (by decide)) (by decide) (by decide)) (by show fr.toInt + 2 ≤ x_8.toInt ∧ x_8.toInt ≤ fr.toInt + 8; omega) (NI_0 (by omega) rfl) hP hD hS (lv_sub hl [0, 1, 2, 3, 4] rfl)
      · have tc_7 : ¬ r_6.toInt = 35 := v_ne c_7
        refine lv_iconst (v := (-1)) hx hb dX2_decodeNumber_29 (by decide) ?_
        exact kl_i (v := (-1)) hQQ hx hb hr hlocks hS dX2_decodeNumber_30 ⟨⟨hP, hD⟩, Or.inr ⟨rfl, fun l x h => by have o1 := bt_c fu en.toInt (fr.toNatClampNeg + 1); unfold DNa DN at h; omega⟩⟩

end
