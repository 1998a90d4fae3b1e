theorem F_addAll_l {cap : Nat} {l l' lo r : Int32} {f f' g : Nat → Int32} (h : F_addAll cap l l' lo r f f' g) (hl : l.toInt + lo.toInt ≤ cap) : l'.toInt = l.toInt + lo.toInt := by
  rcases h with h | h
  · exact h.2.1
  · have := h.1
    omega
theorem F_addAll_0 {cap : Nat} {l' lo r : Int32} {f f' g : Nat → Int32} (h : F_addAll cap 0 l' lo r f f' g) (hl : lo.toInt ≤ cap) : l'.toInt = lo.toInt := by
  have e : (0 : Int32).toInt = 0 := rfl
  have := F_addAll_l h (by omega)
  omega
def isLt (x : Int32) : Prop := 0 ≤ x.toInt ∧ x.toInt ≤ 65535 ∧ (x.toInt < 55296 ∨ 57343 < x.toInt)
def allLt (n : Int) (f : Nat → Int32) : Prop := ∀ j : Nat, (j : Int) < n → isLt (f j)
def F_allL (l r : Int32) (f : Nat → Int32) : Prop := (r = 1 ∧ allLt l.toInt f) ∨ (r = 0 ∧ ¬ allLt l.toInt f)
theorem allLt_0 {n : Int} {f : Nat → Int32} (h : n ≤ 0) : allLt n f := fun j hj => by omega
theorem allLt_s {k k' x : Int32} {f : Nat → Int32} (h : allLt k.toInt f) (ex : x = f k.toNatClampNeg) (hk : 0 ≤ k.toInt) (hk' : k'.toInt = k.toInt + 1) (hx : isLt x) : allLt k'.toInt f := by
  intro j hj
  have q := v_clamp hk
  by_cases z : j = k.toNatClampNeg
  · rw [z, ← ex]; exact hx
  · exact h j (by omega)
theorem allLt_no {n : Int} {k x : Int32} {f : Nat → Int32} (ex : x = f k.toNatClampNeg) (hk : 0 ≤ k.toInt) (hn : k.toInt < n) (hx : ¬ isLt x) : ¬ allLt n f := fun h => by
  have q := v_clamp hk
  exact hx (by rw [ex]; exact h _ (by omega))
/-- what text() answers, by the tape alone -/
def F_text (l r : Int32) (f : Nat → Int32) : Prop := (r.toInt = l.toInt ∧ l.toInt ≤ 300 ∧ allLt l.toInt f) ∨ (r.toInt = -1 ∧ (300 < l.toInt ∨ ¬ allLt l.toInt f))
def eqT (n : Int) (f g : Nat → Int32) : Prop := ∀ j : Nat, (j : Int) < n → f j = g j
theorem eqT_all {n : Int} {f g : Nat → Int32} (h : eqT n f g) (h2 : allLt n f) : allLt n g := fun j hj => by rw [← h j hj]; exact h2 j hj
theorem text_eq {l z r q : Int32} {f g : Nat → Int32} (hl : l.toInt = z.toInt) (he : eqT l.toInt f g) (h1 : F_text l r f) (h2 : F_text z q g) : r = q := by
  have e2 : ∀ j : Nat, (j : Int) < z.toInt → g j = f j := fun j hj => (he j (by omega)).symm
  rcases h1 with ⟨a1, a2, a3⟩ | ⟨a1, a2⟩ <;> rcases h2 with ⟨b1, b2, b3⟩ | ⟨b1, b2⟩
  · exact v_inj (by omega)
  · exfalso
    rcases b2 with w | w
    · omega
    · exact w (by rw [← hl]; exact eqT_all he a3)
  · exfalso
    rcases a2 with w | w
    · omega
    · exact w (by rw [hl]; exact eqT_all e2 b3)
  · exact v_inj (by omega)
/-- five more on the tape -/
def F_feed (l l' r v1 v2 v3 v4 v5 : Int32) (f f' : Nat → Int32) : Prop := (895 < l.toInt ∧ r.toInt = -1 ∧ l'.toInt = l.toInt ∧ f' = f) ∨ (l.toInt ≤ 895 ∧ r.toInt = l.toInt + 5 ∧ l'.toInt = l.toInt + 5 ∧ ∀ j : Nat, f' j = if (j : Int) = l.toInt then v1 else if (j : Int) = l.toInt + 1 then v2 else if (j : Int) = l.toInt + 2 then v3 else if (j : Int) = l.toInt + 3 then v4 else if (j : Int) = l.toInt + 4 then v5 else f j)
theorem feed5 {l k0 k1 k2 k3 k4 v1 v2 v3 v4 v5 : Int32} {f f1 f2 f3 f4 f5 : Nat → Int32} (h0 : 0 ≤ l.toInt) (e0 : k0.toInt = l.toInt) (e1 : k1.toInt = l.toInt + 1) (e2 : k2.toInt = l.toInt + 2) (e3 : k3.toInt = l.toInt + 3) (e4 : k4.toInt = l.toInt + 4) (g1 : f1 = upd f k0.toNatClampNeg v1) (g2 : f2 = upd f1 k1.toNatClampNeg v2) (g3 : f3 = upd f2 k2.toNatClampNeg v3) (g4 : f4 = upd f3 k3.toNatClampNeg v4) (g5 : f5 = upd f4 k4.toNatClampNeg v5) (j : Nat) : f5 j = if (j : Int) = l.toInt then v1 else if (j : Int) = l.toInt + 1 then v2 else if (j : Int) = l.toInt + 2 then v3 else if (j : Int) = l.toInt + 3 then v4 else if (j : Int) = l.toInt + 4 then v5 else f j := by
  have c0 := v_clamp (x := k0) (by omega)
  have c1 := v_clamp (x := k1) (by omega)
  have c2 := v_clamp (x := k2) (by omega)
  have c3 := v_clamp (x := k3) (by omega)
  have c4 := v_clamp (x := k4) (by omega)
  rw [g5, g4, g3, g2, g1]
  unfold upd
  by_cases z0 : (j : Int) = l.toInt
  · rw [if_neg (by omega), if_neg (by omega), if_neg (by omega), if_neg (by omega), if_pos (by omega), if_pos z0]
  · by_cases z1 : (j : Int) = l.toInt + 1
    · rw [if_neg (by omega), if_neg (by omega), if_neg (by omega), if_pos (by omega), if_neg z0, if_pos z1]
    · by_cases z2 : (j : Int) = l.toInt + 2
      · rw [if_neg (by omega), if_neg (by omega), if_pos (by omega), if_neg z0, if_neg z1, if_pos z2]
      · by_cases z3 : (j : Int) = l.toInt + 3
        · rw [if_neg (by omega), if_pos (by omega), if_neg z0, if_neg z1, if_neg z2, if_pos z3]
        · by_cases z4 : (j : Int) = l.toInt + 4
          · rw [if_pos (by omega), if_neg z0, if_neg z1, if_neg z2, if_neg z3, if_pos z4]
          · rw [if_neg (by omega), if_neg (by omega), if_neg (by omega), if_neg (by omega), if_neg (by omega), if_neg z0, if_neg z1, if_neg z2, if_neg z3, if_neg z4]
theorem feed_eq {l l' r z z' q v1 v2 v3 v4 v5 : Int32} {f f' g g' : Nat → Int32} (hl : l.toInt = z.toInt) (he : eqT l.toInt f g) (h1 : F_feed l l' r v1 v2 v3 v4 v5 f f') (h2 : F_feed z z' q v1 v2 v3 v4 v5 g g') : l'.toInt = z'.toInt ∧ eqT l'.toInt f' g' := by
  rcases h1 with ⟨a1, a2, a3, a4⟩ | ⟨a1, a2, a3, a4⟩ <;> rcases h2 with ⟨b1, b2, b3, b4⟩ | ⟨b1, b2, b3, b4⟩
  · refine ⟨by omega, ?_⟩
    rw [a3, a4, b4]; exact he
  · exfalso; omega
  · exfalso; omega
  · refine ⟨by omega, fun j hj => ?_⟩
    rw [a4 j, b4 j, hl]
    by_cases z0 : (j : Int) = z.toInt
    · rw [if_pos z0, if_pos z0]
    · rw [if_neg z0, if_neg z0]
      by_cases z1 : (j : Int) = z.toInt + 1
      · rw [if_pos z1, if_pos z1]
      · rw [if_neg z1, if_neg z1]
        by_cases z2 : (j : Int) = z.toInt + 2
        · rw [if_pos z2, if_pos z2]
        · rw [if_neg z2, if_neg z2]
          by_cases z3 : (j : Int) = z.toInt + 3
          · rw [if_pos z3, if_pos z3]
          · rw [if_neg z3, if_neg z3]
            by_cases z4 : (j : Int) = z.toInt + 4
            · rw [if_pos z4, if_pos z4]
            · rw [if_neg z4, if_neg z4]; exact he j (by omega)
theorem eqT_le {n n' : Int} {f g : Nat → Int32} (h : eqT n f g) (hn : n' ≤ n) : eqT n' f g := fun j hj => h j (by omega)

set_option maxHeartbeats 40000000 in
set_option maxRecDepth 100000 in
theorem f_X11_feed (l : Launch) (dC : Nat → ClassId) (dI : Nat → Nat → Nat) (cI cS : ClassId) (sz : Nat) (oX : Nat) (nT : Nat) (nL : Nat) (nM : Nat) (oC : Nat) (oP : Nat) (oH : Nat) (oK : Nat) (oG : Nat) (oR : Nat) (oQ : Nat) (oW : Nat) (aT : Nat) (fa : Int32) (lT : Int32) (fT : Nat → Int32) (v1 : Int32) (v2 : Int32) (v3 : Int32) (v4 : Int32) (v5 : Int32) (g_lT : 0 ≤ lT.toInt ∧ lT.toInt ≤ 900) : Met l yX11_feed wsX11_feed ({ frames := 1, cells := 0, slots := 0, locals := 21 } : Room) (va_Pc [.ref oX, .int v1, .int v2, .int v3, .int v4, .int v5] (fun U => U.heap.size = sz ∧ va_P (dC, dI) vwCl [(oX, .inr (11, [.ref nT, .ref nL, .ref nM, .ref oC, .ref oP, .ref oH, .ref oK, .ref oG, .ref oR, .ref oQ, .ref oW, .int fa])), (nT, .inr (5, [.ref aT, .int lT])), (aT, .inl (cI, 900, .inl fT))] U.heap ∧ va_K (dC, dI) vwCl [(cI, .int), (cS, .short)] U ∧ va_D (fun _ => True) [(oX, .inr (11, [.ref nT, .ref nL, .ref nM, .ref oC, .ref oP, .ref oH, .ref oK, .ref oG, .ref oR, .ref oQ, .ref oW, .int fa])), (nT, .inr (5, [.ref aT, .int lT])), (aT, .inl (cI, 900, .inl fT))])) (va_Qi (fun (r : Int32) (u : Int32) => r = u) (fun (r : Int32) t => ∃ (lT' : Int32) (fT' : Nat → Int32), va_P (dC, dI) vwCl [(oX, .inr (11, [.ref nT, .ref nL, .ref nM, .ref oC, .ref oP, .ref oH, .ref oK, .ref oG, .ref oR, .ref oQ, .ref oW, .int fa])), (nT, .inr (5, [.ref aT, .int lT'])), (aT, .inl (cI, 900, .inl fT'))] t.heap ∧ va_D (va_A [(oX, .inr (11, [.ref nT, .ref nL, .ref nM, .ref oC, .ref oP, .ref oH, .ref oK, .ref oG, .ref oR, .ref oQ, .ref oW, .int fa])), (nT, .inr (5, [.ref aT, .int lT])), (aT, .inl (cI, 900, .inl fT))] sz) [(oX, .inr (11, [.ref nT, .ref nL, .ref nM, .ref oC, .ref oP, .ref oH, .ref oK, .ref oG, .ref oR, .ref oQ, .ref oW, .int fa])), (nT, .inr (5, [.ref aT, .int lT'])), (aT, .inl (cI, 900, .inl fT'))] ∧ (0 ≤ lT'.toInt ∧ lT'.toInt ≤ 900) ∧ ((895 < lT.toInt ∧ r.toInt = -1 ∧ lT'.toInt = lT.toInt) ∨ (lT.toInt ≤ 895 ∧ r.toInt = lT.toInt + 5 ∧ lT'.toInt = lT.toInt + 5)) ∧ (F_feed lT lT' r v1 v2 v3 v4 v5 fT fT')) (va_A [(oX, .inr (11, [.ref nT, .ref nL, .ref nM, .ref oC, .ref oP, .ref oH, .ref oK, .ref oG, .ref oR, .ref oQ, .ref oW, .int fa])), (nT, .inr (5, [.ref aT, .int lT])), (aT, .inl (cI, 900, .inl fT))] sz)) 0 0 (va_A [(oX, .inr (11, [.ref nT, .ref nL, .ref nM, .ref oC, .ref oP, .ref oH, .ref oK, .ref oG, .ref oR, .ref oQ, .ref oW, .int fa])), (nT, .inr (5, [.ref aT, .int lT])), (aT, .inl (cI, 900, .inl fT))] sz) := by
  refine Met.ofW (cc := cX11_feed) (maxL := 6) (ret := (some .int)) (by decide) rfl ?_
  intro p e s m args below meth c s₁ B hml hv
  obtain ⟨rfl, hsz, hP, hK, hD0⟩ := hv
  have hx := B.exec
  have hb := B.bytes
  have hr := B.returns
  have hts := atoms_spec (ws := wsX11_feed) B.pre
  have hown : s.vm.findClass RX11 = some m.cls := findClass_of_methodNamed B.named
  have hlocks := B.notSynchronized
  have in_X11 : ∀ w ∈ wsX110, w ∈ wsX11_feed := fun _ h => List.mem_cons_of_mem _ (List.mem_append_left _ (List.mem_append_right _ (h)))
  subst hsz
  have hD := hD0.self (sz := s.heap.size)
  generalize hAe : va_A [(oX, .inr (11, [.ref nT, .ref nL, .ref nM, .ref oC, .ref oP, .ref oH, .ref oK, .ref oG, .ref oR, .ref oQ, .ref oW, .int fa])), (nT, .inr (5, [.ref aT, .int lT])), (aT, .inl (cI, 900, .inl fT))] s.heap.size = A at hD ⊢
  have hA : ∀ q : Nat, s.heap.size ≤ q → A q := fun q h => by rw [← hAe]; exact Or.inr h
  have hS : va_S A s.heap s.heap [] := va_S.rf
  have hP : va_P (dC, dI) vwCl [(oX, .inr (11, [.ref nT, .ref nL, .ref nM, .ref oC, .ref oP, .ref oH, .ref oK, .ref oG, .ref oR, .ref oQ, .ref oW, .int fa])), (nT, .inr (5, [.ref aT, .int lT])), (aT, .inl (cI, 900, .inl fT))] s.heap := hP
  have hl := lv_entry ([.ref oX, .int v1, .int v2, .int v3, .int v4, .int v5]) (n := 6) (Nat.le_of_ble_eq_true rfl)
  rw [lg_entry_eq]
  generalize (lg_sl ([.ref oX, .int v1, .int v2, .int v3, .int v4, .int v5]) ++ List.replicate (6 - (lg_sl ([.ref oX, .int v1, .int v2, .int v3, .int v4, .int v5])).length) Slot.unset).toArray = ls at hl ⊢
  have hl : lv_has ls 6 [(0, .ref oX), (1, .int v1), (2, .int v2), (3, .int v3), (4, .int v4), (5, .int v5)] := hl
  obtain ⟨QQ, hQQ⟩ : ∃ QQ : Array Value → State → Outcome → State → Prop, QQ = va_Qi (fun (r : Int32) (u : Int32) => r = u) (fun (r : Int32) t => ∃ (lT' : Int32) (fT' : Nat → Int32), va_P (dC, dI) vwCl [(oX, .inr (11, [.ref nT, .ref nL, .ref nM, .ref oC, .ref oP, .ref oH, .ref oK, .ref oG, .ref oR, .ref oQ, .ref oW, .int fa])), (nT, .inr (5, [.ref aT, .int lT'])), (aT, .inl (cI, 900, .inl fT'))] t.heap ∧ va_D A [(oX, .inr (11, [.ref nT, .ref nL, .ref nM, .ref oC, .ref oP, .ref oH, .ref oK, .ref oG, .ref oR, .ref oQ, .ref oW, .int fa])), (nT, .inr (5, [.ref aT, .int lT'])), (aT, .inl (cI, 900, .inl fT'))] ∧ (0 ≤ lT'.toInt ∧ lT'.toInt ≤ 900) ∧ ((895 < lT.toInt ∧ r.toInt = -1 ∧ lT'.toInt = lT.toInt) ∨ (lT.toInt ≤ 895 ∧ r.toInt = lT.toInt + 5 ∧ lT'.toInt = lT.toInt + 5)) ∧ (F_feed lT lT' r v1 v2 v3 v4 v5 fT fT')) A := ⟨_, rfl⟩
  rw [← hQQ]
  refine lv_aload_n hx hb dX11_feed_0 rfl (lv_at hl 0 rfl) ?_
  refine va_get (D := (dC, dI)) (ci := 11) (v := .ref nT) (C := RX11) (T := TX11) (N := 12) hx hb hts in_X11 hown hK hP 0 rfl rfl 0 (by decide) (hts (.fieldLink RX11 30 "TextMender" "tape" "LTextMender$Numbers;") (List.mem_of_getElem? (i := 1) rfl)) (fun _ h9 => h9) rfl dX11_feed_1 ?_
  have hPc := hP.sub (ws' := [(nT, .inr (5, [.ref aT, .int lT]))]) [1] rfl
  have hDc := hD.sub (ws' := [(nT, .inr (5, [.ref aT, .int lT]))]) [1] (by decide) rfl
  have hFc := va_free (wc := [(nT, .inr (5, [.ref aT, .int lT]))]) hD hS hA [1] rfl
  refine va_calli (va_runV (As := []) (rest := []) ⟨hx, hb, hml, hown, hts⟩ (m_X5_length l dC dI cI cS s.heap.size nT aT lT ) (cwV 0 hts gX11_feed_X5_length rfl rfl rfl (by decide +kernel) ⟨Nat.le_of_ble_eq_true rfl, Nat.le_of_ble_eq_true rfl⟩) ⟨fun a U g mk q => by obtain ⟨q0, q1, qP, qK, qD⟩ := q; exact ⟨q0, q1, qP, va_K.moved (u := U) (U := U.calling g mk a) (Vm.Alike.refl U.vm) qK, qD⟩, va_recv hK hPc (ci := 5) (q0 := 0) rfl rfl, fun U hU hW => ⟨rfl, by rw [hU], by rw [hU]; exact hPc, va_K.moved hW.alike hK, hDc.weaken (fun _ _ _ _ => trivial)⟩⟩ rfl rfl hl.1 rfl (lv_room (Nat.le_of_ble_eq_true rfl)) dX11_feed_4 ⟨Nat.le_of_ble_eq_true rfl, Nat.le_of_ble_eq_true rfl⟩) hS (fun q _ h => hFc q h) hFc (fun r_1 u t H1 locs ht hvm hw hB hz1 hk1 hS => ?_)
  subst hw
  obtain ⟨hP1, hD1, hf1_0⟩ := hB
  rw [ht] at hP1
  obtain ⟨hP, hD⟩ := va_join (wr := [(oX, .inr (11, [.ref nT, .ref nL, .ref nM, .ref oC, .ref oP, .ref oH, .ref oK, .ref oG, .ref oR, .ref oQ, .ref oW, .int fa])), (aT, .inl (cI, 900, .inl fT))]) (w1 := [(nT, .inr (5, [.ref aT, .int lT]))]) hP hD [1] [0, 2] rfl rfl (by decide) (by decide) hk1 hFc hP1 hD1
  generalize H1 = H at hP hS ⊢
  have hP : va_P (dC, dI) vwCl [(oX, .inr (11, [.ref nT, .ref nL, .ref nM, .ref oC, .ref oP, .ref oH, .ref oK, .ref oG, .ref oR, .ref oQ, .ref oW, .int fa])), (aT, .inl (cI, 900, .inl fT)), (nT, .inr (5, [.ref aT, .int lT]))] H := hP
  have hD : va_D A [(oX, .inr (11, [.ref nT, .ref nL, .ref nM, .ref oC, .ref oP, .ref oH, .ref oK, .ref oG, .ref oR, .ref oQ, .ref oW, .int fa])), (aT, .inl (cI, 900, .inl fT)), (nT, .inr (5, [.ref aT, .int lT]))] := hD
  rw [hf1_0]
  refine lv_iconst (v := 5) hx hb dX11_feed_7 (by decide) ?_
  refine lv_iadd hx hb dX11_feed_8 ?_
  refine lv_topi (fun x_2 ex_2 => ?_)
  have tx_2 : x_2.toInt = lT.toInt + 5 := v_add ex_2 (by show -2147483648 ≤ lT.toInt + 5; omega) (by show lT.toInt + 5 < 2147483648; omega)
  refine lv_sipush (v := 900) hx hb dX11_feed_9 (by decide) ?_
  refine lv_icmp_le (tgt := 17) hx hb dX11_feed_12 (by decide) (fun c_3 => ?_) (fun c_3 => ?_)
  · have tc_3 : x_2.toInt ≤ 900 := v_le c_3
    refine lv_aload_n hx hb dX11_feed_17 rfl (lv_at hl 0 rfl) ?_
    refine va_get (D := (dC, dI)) (ci := 11) (v := .ref nT) (C := RX11) (T := TX11) (N := 12) hx hb hts in_X11 hown hK hP 0 rfl rfl 0 (by decide) (hts (.fieldLink RX11 30 "TextMender" "tape" "LTextMender$Numbers;") (List.mem_of_getElem? (i := 1) rfl)) (fun _ h9 => h9) rfl dX11_feed_18 ?_
    refine lv_iload_n hx hb dX11_feed_21 rfl (lv_at hl 1 rfl) ?_
    have hPc := hP.sub (ws' := [(nT, .inr (5, [.ref aT, .int lT])), (aT, .inl (cI, 900, .inl fT))]) [2, 1] rfl
    have hDc := hD.sub (ws' := [(nT, .inr (5, [.ref aT, .int lT])), (aT, .inl (cI, 900, .inl fT))]) [2, 1] (by decide) rfl
    have hFc := va_free (wc := [(nT, .inr (5, [.ref aT, .int lT])), (aT, .inl (cI, 900, .inl fT))]) hD hS hA [2, 1] rfl
    refine va_calli (va_runV (As := [.int v1]) (rest := []) ⟨hx, hb, hml, hown, hts⟩ (m_X5_add l dC dI cI cS H.size nT aT 900 lT fT v1 (by omega) (by omega)) (cwV 1 hts gX11_feed_X5_add rfl rfl rfl (by decide +kernel) ⟨Nat.le_of_ble_eq_true rfl, Nat.le_of_ble_eq_true rfl⟩) ⟨fun a U g mk q => by obtain ⟨q0, q1, qP, qK, qD⟩ := q; exact ⟨q0, q1, qP, va_K.moved (u := U) (U := U.calling g mk a) (Vm.Alike.refl U.vm) qK, qD⟩, va_recv hK hPc (ci := 5) (q0 := 0) rfl rfl, fun U hU hW => ⟨rfl, by rw [hU], by rw [hU]; exact hPc, va_K.moved hW.alike hK, hDc.weaken (fun _ _ _ _ => trivial)⟩⟩ rfl rfl hl.1 rfl (lv_room (Nat.le_of_ble_eq_true rfl)) dX11_feed_22 ⟨Nat.le_of_ble_eq_true rfl, Nat.le_of_ble_eq_true rfl⟩) hS (fun q _ h => hFc q h) hFc (fun r_4 u t H1 locs ht hvm hw hB hz1 hk1 hS => ?_)
    subst hw
    obtain ⟨lu_4, fu_4, hP1, hD1, hf4_0, hf4_1, hf4_2⟩ := hB
    rw [ht] at hP1
    obtain ⟨hP, hD⟩ := va_join (wr := [(oX, .inr (11, [.ref nT, .ref nL, .ref nM, .ref oC, .ref oP, .ref oH, .ref oK, .ref oG, .ref oR, .ref oQ, .ref oW, .int fa]))]) (w1 := [(nT, .inr (5, [.ref aT, .int lu_4])), (aT, .inl (cI, 900, .inl fu_4))]) hP hD [2, 1] [0] rfl rfl (by decide) (by decide) hk1 hFc hP1 hD1
    generalize H1 = H at hP hS ⊢
    have hP : va_P (dC, dI) vwCl [(oX, .inr (11, [.ref nT, .ref nL, .ref nM, .ref oC, .ref oP, .ref oH, .ref oK, .ref oG, .ref oR, .ref oQ, .ref oW, .int fa])), (nT, .inr (5, [.ref aT, .int lu_4])), (aT, .inl (cI, 900, .inl fu_4))] H := hP
    have hD : va_D A [(oX, .inr (11, [.ref nT, .ref nL, .ref nM, .ref oC, .ref oP, .ref oH, .ref oK, .ref oG, .ref oR, .ref oQ, .ref oW, .int fa])), (nT, .inr (5, [.ref aT, .int lu_4])), (aT, .inl (cI, 900, .inl fu_4))] := hD
    have ha4 : lu_4.toInt = lT.toInt + 1 := F_add_l hf4_2 (by omega)
    have hb4 := F_add_f hf4_2 (by omega)
    refine lv_pop hx hb dX11_feed_25 rfl ?_
    refine lv_aload_n hx hb dX11_feed_26 rfl (lv_at hl 0 rfl) ?_
    refine va_get (D := (dC, dI)) (ci := 11) (v := .ref nT) (C := RX11) (T := TX11) (N := 12) hx hb hts in_X11 hown hK hP 0 rfl rfl 0 (by decide) (hts (.fieldLink RX11 30 "TextMender" "tape" "LTextMender$Numbers;") (List.mem_of_getElem? (i := 1) rfl)) (fun _ h9 => h9) rfl dX11_feed_27 ?_
    refine lv_iload_n hx hb dX11_feed_30 rfl (lv_at hl 2 rfl) ?_
    have hPc := hP.sub (ws' := [(nT, .inr (5, [.ref aT, .int lu_4])), (aT, .inl (cI, 900, .inl fu_4))]) [1, 2] rfl
    have hDc := hD.sub (ws' := [(nT, .inr (5, [.ref aT, .int lu_4])), (aT, .inl (cI, 900, .inl fu_4))]) [1, 2] (by decide) rfl
    have hFc := va_free (wc := [(nT, .inr (5, [.ref aT, .int lu_4])), (aT, .inl (cI, 900, .inl fu_4))]) hD hS hA [1, 2] rfl
    refine va_calli (va_runV (As := [.int v2]) (rest := []) ⟨hx, hb, hml, hown, hts⟩ (m_X5_add l dC dI cI cS H.size nT aT 900 lu_4 fu_4 v2 (by omega) (by omega)) (cwV 1 hts gX11_feed_X5_add rfl rfl rfl (by decide +kernel) ⟨Nat.le_of_ble_eq_true rfl, Nat.le_of_ble_eq_true rfl⟩) ⟨fun a U g mk q => by obtain ⟨q0, q1, qP, qK, qD⟩ := q; exact ⟨q0, q1, qP, va_K.moved (u := U) (U := U.calling g mk a) (Vm.Alike.refl U.vm) qK, qD⟩, va_recv hK hPc (ci := 5) (q0 := 0) rfl rfl, fun U hU hW => ⟨rfl, by rw [hU], by rw [hU]; exact hPc, va_K.moved hW.alike hK, hDc.weaken (fun _ _ _ _ => trivial)⟩⟩ rfl rfl hl.1 rfl (lv_room (Nat.le_of_ble_eq_true rfl)) dX11_feed_31 ⟨Nat.le_of_ble_eq_true rfl, Nat.le_of_ble_eq_true rfl⟩) hS (fun q _ h => hFc q h) hFc (fun r_5 u t H1 locs ht hvm hw hB hz1 hk1 hS => ?_)
    subst hw
    obtain ⟨lu_5, fu_5, hP1, hD1, hf5_0, hf5_1, hf5_2⟩ := hB
    rw [ht] at hP1
    obtain ⟨hP, hD⟩ := va_join (wr := [(oX, .inr (11, [.ref nT, .ref nL, .ref nM, .ref oC, .ref oP, .ref oH, .ref oK, .ref oG, .ref oR, .ref oQ, .ref oW, .int fa]))]) (w1 := [(nT, .inr (5, [.ref aT, .int lu_5])), (aT, .inl (cI, 900, .inl fu_5))]) hP hD [1, 2] [0] rfl rfl (by decide) (by decide) hk1 hFc hP1 hD1
    generalize H1 = H at hP hS ⊢
    have hP : va_P (dC, dI) vwCl [(oX, .inr (11, [.ref nT, .ref nL, .ref nM, .ref oC, .ref oP, .ref oH, .ref oK, .ref oG, .ref oR, .ref oQ, .ref oW, .int fa])), (nT, .inr (5, [.ref aT, .int lu_5])), (aT, .inl (cI, 900, .inl fu_5))] H := hP
    have hD : va_D A [(oX, .inr (11, [.ref nT, .ref nL, .ref nM, .ref oC, .ref oP, .ref oH, .ref oK, .ref oG, .ref oR, .ref oQ, .ref oW, .int fa])), (nT, .inr (5, [.ref aT, .int lu_5])), (aT, .inl (cI, 900, .inl fu_5))] := hD
    have ha5 : lu_5.toInt = lu_4.toInt + 1 := F_add_l hf5_2 (by omega)
    have hb5 := F_add_f hf5_2 (by omega)
    refine lv_pop hx hb dX11_feed_34 rfl ?_
    refine lv_aload_n hx hb dX11_feed_35 rfl (lv_at hl 0 rfl) ?_
    refine va_get (D := (dC, dI)) (ci := 11) (v := .ref nT) (C := RX11) (T := TX11) (N := 12) hx hb hts in_X11 hown hK hP 0 rfl rfl 0 (by decide) (hts (.fieldLink RX11 30 "TextMender" "tape" "LTextMender$Numbers;") (List.mem_of_getElem? (i := 1) rfl)) (fun _ h9 => h9) rfl dX11_feed_36 ?_
    refine lv_iload_n hx hb dX11_feed_39 rfl (lv_at hl 3 rfl) ?_
    have hPc := hP.sub (ws' := [(nT, .inr (5, [.ref aT, .int lu_5])), (aT, .inl (cI, 900, .inl fu_5))]) [1, 2] rfl
    have hDc := hD.sub (ws' := [(nT, .inr (5, [.ref aT, .int lu_5])), (aT, .inl (cI, 900, .inl fu_5))]) [1, 2] (by decide) rfl
    have hFc := va_free (wc := [(nT, .inr (5, [.ref aT, .int lu_5])), (aT, .inl (cI, 900, .inl fu_5))]) hD hS hA [1, 2] rfl
    refine va_calli (va_runV (As := [.int v3]) (rest := []) ⟨hx, hb, hml, hown, hts⟩ (m_X5_add l dC dI cI cS H.size nT aT 900 lu_5 fu_5 v3 (by omega) (by omega)) (cwV 1 hts gX11_feed_X5_add rfl rfl rfl (by decide +kernel) ⟨Nat.le_of_ble_eq_true rfl, Nat.le_of_ble_eq_true rfl⟩) ⟨fun a U g mk q => by obtain ⟨q0, q1, qP, qK, qD⟩ := q; exact ⟨q0, q1, qP, va_K.moved (u := U) (U := U.calling g mk a) (Vm.Alike.refl U.vm) qK, qD⟩, va_recv hK hPc (ci := 5) (q0 := 0) rfl rfl, fun U hU hW => ⟨rfl, by rw [hU], by rw [hU]; exact hPc, va_K.moved hW.alike hK, hDc.weaken (fun _ _ _ _ => trivial)⟩⟩ rfl rfl hl.1 rfl (lv_room (Nat.le_of_ble_eq_true rfl)) dX11_feed_40 ⟨Nat.le_of_ble_eq_true rfl, Nat.le_of_ble_eq_true rfl⟩) hS (fun q _ h => hFc q h) hFc (fun r_6 u t H1 locs ht hvm hw hB hz1 hk1 hS => ?_)
    subst hw
    obtain ⟨lu_6, fu_6, hP1, hD1, hf6_0, hf6_1, hf6_2⟩ := hB
    rw [ht] at hP1
    obtain ⟨hP, hD⟩ := va_join (wr := [(oX, .inr (11, [.ref nT, .ref nL, .ref nM, .ref oC, .ref oP, .ref oH, .ref oK, .ref oG, .ref oR, .ref oQ, .ref oW, .int fa]))]) (w1 := [(nT, .inr (5, [.ref aT, .int lu_6])), (aT, .inl (cI, 900, .inl fu_6))]) hP hD [1, 2] [0] rfl rfl (by decide) (by decide) hk1 hFc hP1 hD1
    generalize H1 = H at hP hS ⊢
    have hP : va_P (dC, dI) vwCl [(oX, .inr (11, [.ref nT, .ref nL, .ref nM, .ref oC, .ref oP, .ref oH, .ref oK, .ref oG, .ref oR, .ref oQ, .ref oW, .int fa])), (nT, .inr (5, [.ref aT, .int lu_6])), (aT, .inl (cI, 900, .inl fu_6))] H := hP
    have hD : va_D A [(oX, .inr (11, [.ref nT, .ref nL, .ref nM, .ref oC, .ref oP, .ref oH, .ref oK, .ref oG, .ref oR, .ref oQ, .ref oW, .int fa])), (nT, .inr (5, [.ref aT, .int lu_6])), (aT, .inl (cI, 900, .inl fu_6))] := hD
    have ha6 : lu_6.toInt = lu_5.toInt + 1 := F_add_l hf6_2 (by omega)
    have hb6 := F_add_f hf6_2 (by omega)
    refine lv_pop hx hb dX11_feed_43 rfl ?_
    refine lv_aload_n hx hb dX11_feed_44 rfl (lv_at hl 0 rfl) ?_
    refine va_get (D := (dC, dI)) (ci := 11) (v := .ref nT) (C := RX11) (T := TX11) (N := 12) hx hb hts in_X11 hown hK hP 0 rfl rfl 0 (by decide) (hts (.fieldLink RX11 30 "TextMender" "tape" "LTextMender$Numbers;") (List.mem_of_getElem? (i := 1) rfl)) (fun _ h9 => h9) rfl dX11_feed_45 ?_
    refine lv_iload hx hb dX11_feed_48 (lv_at hl 4 rfl) ?_
    have hPc := hP.sub (ws' := [(nT, .inr (5, [.ref aT, .int lu_6])), (aT, .inl (cI, 900, .inl fu_6))]) [1, 2] rfl
    have hDc := hD.sub (ws' := [(nT, .inr (5, [.ref aT, .int lu_6])), (aT, .inl (cI, 900, .inl fu_6))]) [1, 2] (by decide) rfl
    have hFc := va_free (wc := [(nT, .inr (5, [.ref aT, .int lu_6])), (aT, .inl (cI, 900, .inl fu_6))]) hD hS hA [1, 2] rfl
    refine va_calli (va_runV (As := [.int v4]) (rest := []) ⟨hx, hb, hml, hown, hts⟩ (m_X5_add l dC dI cI cS H.size nT aT 900 lu_6 fu_6 v4 (by omega) (by omega)) (cwV 1 hts gX11_feed_X5_add rfl rfl rfl (by decide +kernel) ⟨Nat.le_of_ble_eq_true rfl, Nat.le_of_ble_eq_true rfl⟩) ⟨fun a U g mk q => by obtain ⟨q0, q1, qP, qK, qD⟩ := q; exact ⟨q0, q1, qP, va_K.moved (u := U) (U := U.calling g mk a) (Vm.Alike.refl U.vm) qK, qD⟩, va_recv hK hPc (ci := 5) (q0 := 0) rfl rfl, fun U hU hW => ⟨rfl, by rw [hU], by rw [hU]; exact hPc, va_K.moved hW.alike hK, hDc.weaken (fun _ _ _ _ => trivial)⟩⟩ rfl rfl hl.1 rfl (lv_room (Nat.le_of_ble_eq_true rfl)) dX11_feed_50 ⟨Nat.le_of_ble_eq_true rfl, Nat.le_of_ble_eq_true rfl⟩) hS (fun q _ h => hFc q h) hFc (fun r_7 u t H1 locs ht hvm hw hB hz1 hk1 hS => ?_)
    subst hw
    obtain ⟨lu_7, fu_7, hP1, hD1, hf7_0, hf7_1, hf7_2⟩ := hB
    rw [ht] at hP1
    obtain ⟨hP, hD⟩ := va_join (wr := [(oX, .inr (11, [.ref nT, .ref nL, .ref nM, .ref oC, .ref oP, .ref oH, .ref oK, .ref oG, .ref oR, .ref oQ, .ref oW, .int fa]))]) (w1 := [(nT, .inr (5, [.ref aT, .int lu_7])), (aT, .inl (cI, 900, .inl fu_7))]) hP hD [1, 2] [0] rfl rfl (by decide) (by decide) hk1 hFc hP1 hD1
    generalize H1 = H at hP hS ⊢
    have hP : va_P (dC, dI) vwCl [(oX, .inr (11, [.ref nT, .ref nL, .ref nM, .ref oC, .ref oP, .ref oH, .ref oK, .ref oG, .ref oR, .ref oQ, .ref oW, .int fa])), (nT, .inr (5, [.ref aT, .int lu_7])), (aT, .inl (cI, 900, .inl fu_7))] H := hP
    have hD : va_D A [(oX, .inr (11, [.ref nT, .ref nL, .ref nM, .ref oC, .ref oP, .ref oH, .ref oK, .ref oG, .ref oR, .ref oQ, .ref oW, .int fa])), (nT, .inr (5, [.ref aT, .int lu_7])), (aT, .inl (cI, 900, .inl fu_7))] := hD
    have ha7 : lu_7.toInt = lu_6.toInt + 1 := F_add_l hf7_2 (by omega)
    have hb7 := F_add_f hf7_2 (by omega)
    refine lv_pop hx hb dX11_feed_53 rfl ?_
    refine lv_aload_n hx hb dX11_feed_54 rfl (lv_at hl 0 rfl) ?_
    refine va_get (D := (dC, dI)) (ci := 11) (v := .ref nT) (C := RX11) (T := TX11) (N := 12) hx hb hts in_X11 hown hK hP 0 rfl rfl 0 (by decide) (hts (.fieldLink RX11 30 "TextMender" "tape" "LTextMender$Numbers;") (List.mem_of_getElem? (i := 1) rfl)) (fun _ h9 => h9) rfl dX11_feed_55 ?_
    refine lv_iload hx hb dX11_feed_58 (lv_at hl 5 rfl) ?_
    have hPc := hP.sub (ws' := [(nT, .inr (5, [.ref aT, .int lu_7])), (aT, .inl (cI, 900, .inl fu_7))]) [1, 2] rfl
    have hDc := hD.sub (ws' := [(nT, .inr (5, [.ref aT, .int lu_7])), (aT, .inl (cI, 900, .inl fu_7))]) [1, 2] (by decide) rfl
    have hFc := va_free (wc := [(nT, .inr (5, [.ref aT, .int lu_7])), (aT, .inl (cI, 900, .inl fu_7))]) hD hS hA [1, 2] rfl
    refine va_calli (va_runV (As := [.int v5]) (rest := []) ⟨hx, hb, hml, hown, hts⟩ (m_X5_add l dC dI cI cS H.size nT aT 900 lu_7 fu_7 v5 (by omega) (by omega)) (cwV 1 hts gX11_feed_X5_add rfl rfl rfl (by decide +kernel) ⟨Nat.le_of_ble_eq_true rfl, Nat.le_of_ble_eq_true rfl⟩) ⟨fun a U g mk q => by obtain ⟨q0, q1, qP, qK, qD⟩ := q; exact ⟨q0, q1, qP, va_K.moved (u := U) (U := U.calling g mk a) (Vm.Alike.refl U.vm) qK, qD⟩, va_recv hK hPc (ci := 5) (q0 := 0) rfl rfl, fun U hU hW => ⟨rfl, by rw [hU], by rw [hU]; exact hPc, va_K.moved hW.alike hK, hDc.weaken (fun _ _ _ _ => trivial)⟩⟩ rfl rfl hl.1 rfl (lv_room (Nat.le_of_ble_eq_true rfl)) dX11_feed_60 ⟨Nat.le_of_ble_eq_true rfl, Nat.le_of_ble_eq_true rfl⟩) hS (fun q _ h => hFc q h) hFc (fun r_8 u t H1 locs ht hvm hw hB hz1 hk1 hS => ?_)
    subst hw
    obtain ⟨lu_8, fu_8, hP1, hD1, hf8_0, hf8_1, hf8_2⟩ := hB
    rw [ht] at hP1
    obtain ⟨hP, hD⟩ := va_join (wr := [(oX, .inr (11, [.ref nT, .ref nL, .ref nM, .ref oC, .ref oP, .ref oH, .ref oK, .ref oG, .ref oR, .ref oQ, .ref oW, .int fa]))]) (w1 := [(nT, .inr (5, [.ref aT, .int lu_8])), (aT, .inl (cI, 900, .inl fu_8))]) hP hD [1, 2] [0] rfl rfl (by decide) (by decide) hk1 hFc hP1 hD1
    generalize H1 = H at hP hS ⊢
    have hP : va_P (dC, dI) vwCl [(oX, .inr (11, [.ref nT, .ref nL, .ref nM, .ref oC, .ref oP, .ref oH, .ref oK, .ref oG, .ref oR, .ref oQ, .ref oW, .int fa])), (nT, .inr (5, [.ref aT, .int lu_8])), (aT, .inl (cI, 900, .inl fu_8))] H := hP
    have hD : va_D A [(oX, .inr (11, [.ref nT, .ref nL, .ref nM, .ref oC, .ref oP, .ref oH, .ref oK, .ref oG, .ref oR, .ref oQ, .ref oW, .int fa])), (nT, .inr (5, [.ref aT, .int lu_8])), (aT, .inl (cI, 900, .inl fu_8))] := hD
    have ha8 : lu_8.toInt = lu_7.toInt + 1 := F_add_l hf8_2 (by omega)
    have hb8 := F_add_f hf8_2 (by omega)
    refine lv_pop hx hb dX11_feed_63 rfl ?_
    refine lv_aload_n hx hb dX11_feed_64 rfl (lv_at hl 0 rfl) ?_
    refine va_get (D := (dC, dI)) (ci := 11) (v := .ref nT) (C := RX11) (T := TX11) (N := 12) hx hb hts in_X11 hown hK hP 0 rfl rfl 0 (by decide) (hts (.fieldLink RX11 30 "TextMender" "tape" "LTextMender$Numbers;") (List.mem_of_getElem? (i := 1) rfl)) (fun _ h9 => h9) rfl dX11_feed_65 ?_
    have hPc := hP.sub (ws' := [(nT, .inr (5, [.ref aT, .int lu_8]))]) [1] rfl
    have hDc := hD.sub (ws' := [(nT, .inr (5, [.ref aT, .int lu_8]))]) [1] (by decide) rfl
    have hFc := va_free (wc := [(nT, .inr (5, [.ref aT, .int lu_8]))]) hD hS hA [1] rfl
    refine va_calli (va_runV (As := []) (rest := []) ⟨hx, hb, hml, hown, hts⟩ (m_X5_length l dC dI cI cS H.size nT aT lu_8 ) (cwV 0 hts gX11_feed_X5_length rfl rfl rfl (by decide +kernel) ⟨Nat.le_of_ble_eq_true rfl, Nat.le_of_ble_eq_true rfl⟩) ⟨fun a U g mk q => by obtain ⟨q0, q1, qP, qK, qD⟩ := q; exact ⟨q0, q1, qP, va_K.moved (u := U) (U := U.calling g mk a) (Vm.Alike.refl U.vm) qK, qD⟩, va_recv hK hPc (ci := 5) (q0 := 0) rfl rfl, fun U hU hW => ⟨rfl, by rw [hU], by rw [hU]; exact hPc, va_K.moved hW.alike hK, hDc.weaken (fun _ _ _ _ => trivial)⟩⟩ rfl rfl hl.1 rfl (lv_room (Nat.le_of_ble_eq_true rfl)) dX11_feed_68 ⟨Nat.le_of_ble_eq_true rfl, Nat.le_of_ble_eq_true rfl⟩) hS (fun q _ h => hFc q h) hFc (fun r_9 u t H1 locs ht hvm hw hB hz1 hk1 hS => ?_)
    subst hw
    obtain ⟨hP1, hD1, hf9_0⟩ := hB
    rw [ht] at hP1
    obtain ⟨hP, hD⟩ := va_join (wr := [(oX, .inr (11, [.ref nT, .ref nL, .ref nM, .ref oC, .ref oP, .ref oH, .ref oK, .ref oG, .ref oR, .ref oQ, .ref oW, .int fa])), (aT, .inl (cI, 900, .inl fu_8))]) (w1 := [(nT, .inr (5, [.ref aT, .int lu_8]))]) hP hD [1] [0, 2] rfl rfl (by decide) (by decide) hk1 hFc hP1 hD1
    generalize H1 = H at hP hS ⊢
    have hP : va_P (dC, dI) vwCl [(oX, .inr (11, [.ref nT, .ref nL, .ref nM, .ref oC, .ref oP, .ref oH, .ref oK, .ref oG, .ref oR, .ref oQ, .ref oW, .int fa])), (aT, .inl (cI, 900, .inl fu_8)), (nT, .inr (5, [.ref aT, .int lu_8]))] H := hP
    have hD : va_D A [(oX, .inr (11, [.ref nT, .ref nL, .ref nM, .ref oC, .ref oP, .ref oH, .ref oK, .ref oG, .ref oR, .ref oQ, .ref oW, .int fa])), (aT, .inl (cI, 900, .inl fu_8)), (nT, .inr (5, [.ref aT, .int lu_8]))] := hD
    rw [hf9_0]
    have hP9 := hP.sub (ws' := [(oX, .inr (11, [.ref nT, .ref nL, .ref nM, .ref oC, .ref oP, .ref oH, .ref oK, .ref oG, .ref oR, .ref oQ, .ref oW, .int fa])), (nT, .inr (5, [.ref aT, .int lu_8])), (aT, .inl (cI, 900, .inl fu_8))]) [0, 2, 1] rfl
    have hD9 := hD.sub (ws' := [(oX, .inr (11, [.ref nT, .ref nL, .ref nM, .ref oC, .ref oP, .ref oH, .ref oK, .ref oG, .ref oR, .ref oQ, .ref oW, .int fa])), (nT, .inr (5, [.ref aT, .int lu_8])), (aT, .inl (cI, 900, .inl fu_8))]) [0, 2, 1] (by decide) rfl
    rw [hQQ]
    exact W.iret (v := lu_8) hx hb hr (fun t ht hW => ⟨⟨lu_8, lu_8, rfl, rfl, ⟨lu_8, fu_8, by rw [ht]; exact hP9, hD9, by omega, by show (895 < lT.toInt ∧ lu_8.toInt = -1 ∧ lu_8.toInt = lT.toInt) ∨ (lT.toInt ≤ 895 ∧ lu_8.toInt = lT.toInt + 5 ∧ lu_8.toInt = lT.toInt + 5); omega, Or.inr ⟨by omega, by omega, by omega, feed5 (by omega) (k0 := lT) rfl (by omega) (by omega) (by omega) (by omega) hb4 hb5 hb6 hb7 hb8⟩⟩⟩, hS.F ht⟩) hS.2.2 dX11_feed_71
  · have tc_3 : 900 < x_2.toInt := v_nle c_3
    refine lv_iconst (v := (-1)) hx hb dX11_feed_15 (by decide) ?_
    have hP9 := hP.sub (ws' := [(oX, .inr (11, [.ref nT, .ref nL, .ref nM, .ref oC, .ref oP, .ref oH, .ref oK, .ref oG, .ref oR, .ref oQ, .ref oW, .int fa])), (nT, .inr (5, [.ref aT, .int lT])), (aT, .inl (cI, 900, .inl fT))]) [0, 2, 1] rfl
    have hD9 := hD.sub (ws' := [(oX, .inr (11, [.ref nT, .ref nL, .ref nM, .ref oC, .ref oP, .ref oH, .ref oK, .ref oG, .ref oR, .ref oQ, .ref oW, .int fa])), (nT, .inr (5, [.ref aT, .int lT])), (aT, .inl (cI, 900, .inl fT))]) [0, 2, 1] (by decide) rfl
    rw [hQQ]
    exact W.iret (v := (-1)) hx hb hr (fun t ht hW => ⟨⟨(-1), (-1), rfl, rfl, ⟨lT, fT, by rw [ht]; exact hP9, hD9, by omega, by show (895 < lT.toInt ∧ (-1) = -1 ∧ lT.toInt = lT.toInt) ∨ (lT.toInt ≤ 895 ∧ (-1) = lT.toInt + 5 ∧ lT.toInt = lT.toInt + 5); omega, Or.inl ⟨by omega, by decide, rfl, rfl⟩⟩⟩, hS.F ht⟩) hS.2.2 dX11_feed_16

set_option maxHeartbeats 40000000 in
set_option maxRecDepth 100000 in
theorem f_X12_feed (l : Launch) (dC : Nat → ClassId) (dI : Nat → Nat → Nat) (cI cS : ClassId) (sz : Nat) (oM : Nat) (mT : Nat) (mS : Nat) (mX : Nat) (mL : Nat) (mB : Nat) (mD : Nat) (m1 : Nat) (m2 : Nat) (mR : Nat) (x1 : Nat) (x2 : Nat) (x3 : Nat) (mH : Nat) (mY : Nat) (mE : Nat) (mW : Nat) (mO : Nat) (y1 : Nat) (y2 : Nat) (y3 : Nat) (y4 : Nat) (mZ : Nat) (zt : Int32) (zp : Int32) (zf : Int32) (zh : Int32) (zr : Int32) (zc : Int32) (zy : Int32) (za : Int32) (zb : Int32) (zs : Int32) (zq : Int32) (zw : Int32) (ze : Int32) (zn : Int32) (zm : Int32) (zl : Int32) (zk : Int32) (zd : Int32) (eT : Nat → Int32) (v1 : Int32) (v2 : Int32) (v3 : Int32) (v4 : Int32) (v5 : Int32) (g_zt : 0 ≤ zt.toInt ∧ zt.toInt ≤ 900) (g_zp : 0 ≤ zp.toInt ∧ zp.toInt ≤ 20) (g_zf : 0 ≤ zf.toInt ∧ zf.toInt ≤ 19) (g_zh : 0 ≤ zh.toInt ∧ zh.toInt ≤ 6) (g_zr : 0 ≤ zr.toInt ∧ zr.toInt ≤ 258) (g_zc : 0 ≤ zc.toInt ∧ zc.toInt ≤ 300) (g_zy : 0 ≤ zy.toInt ∧ zy.toInt ≤ 65536) (g_za : 0 ≤ za.toInt ∧ za.toInt ≤ 5) (g_zb : 0 ≤ zb.toInt ∧ zb.toInt ≤ 5) (g_zs : 0 ≤ zs.toInt ∧ zs.toInt ≤ 2000000) (g_zq : -1 ≤ zq.toInt ∧ zq.toInt ≤ 2000000) (g_zn : 0 ≤ zn.toInt ∧ zn.toInt ≤ 2600) (g_zm : 0 ≤ zm.toInt ∧ zm.toInt ≤ 2600) (g_zk : 0 ≤ zk.toInt ∧ zk.toInt ≤ 300) (hzs : zs.toInt ≤ 1000000) : Met l yX12_feed wsX12_feed ({ frames := 0, cells := 0, slots := 0, locals := 0 } : Room) (va_Pc [.ref oM, .int v1, .int v2, .int v3, .int v4, .int v5] (fun U => U.heap.size = sz ∧ va_P (dC, dI) vwCl [(oM, .inr (12, [.ref mT, .int zt, .ref mS, .ref mX, .int zp, .int zf, .ref mL, .ref mB, .ref mD, .ref m1, .ref m2, .int zh, .ref mR, .int zr, .ref x1, .ref x2, .ref x3, .int zc, .ref mH, .int zy, .int za, .int zb, .int zs, .int zq, .int zw, .int ze, .ref mY, .int zn, .ref mE, .int zm, .int zl, .ref mW, .int zk, .ref mO, .int zd, .ref y1, .ref y2, .ref y3, .ref y4, .ref mZ])), (mT, .inl (cI, 900, .inl eT))] U.heap ∧ va_K (dC, dI) vwCl [(cI, .int), (cS, .short)] U ∧ va_D (fun _ => True) [(oM, .inr (12, [.ref mT, .int zt, .ref mS, .ref mX, .int zp, .int zf, .ref mL, .ref mB, .ref mD, .ref m1, .ref m2, .int zh, .ref mR, .int zr, .ref x1, .ref x2, .ref x3, .int zc, .ref mH, .int zy, .int za, .int zb, .int zs, .int zq, .int zw, .int ze, .ref mY, .int zn, .ref mE, .int zm, .int zl, .ref mW, .int zk, .ref mO, .int zd, .ref y1, .ref y2, .ref y3, .ref y4, .ref mZ])), (mT, .inl (cI, 900, .inl eT))])) (va_Qi (fun (r : Int32) (u : Int32) => r = u) (fun (r : Int32) t => ∃ (ze' : Int32) (zt' : Int32) (eT' : Nat → Int32), va_P (dC, dI) vwCl [(oM, .inr (12, [.ref mT, .int zt', .ref mS, .ref mX, .int zp, .int zf, .ref mL, .ref mB, .ref mD, .ref m1, .ref m2, .int zh, .ref mR, .int zr, .ref x1, .ref x2, .ref x3, .int zc, .ref mH, .int zy, .int za, .int zb, .int zs, .int zq, .int zw, .int ze', .ref mY, .int zn, .ref mE, .int zm, .int zl, .ref mW, .int zk, .ref mO, .int zd, .ref y1, .ref y2, .ref y3, .ref y4, .ref mZ])), (mT, .inl (cI, 900, .inl eT'))] t.heap ∧ va_D (va_A [(oM, .inr (12, [.ref mT, .int zt, .ref mS, .ref mX, .int zp, .int zf, .ref mL, .ref mB, .ref mD, .ref m1, .ref m2, .int zh, .ref mR, .int zr, .ref x1, .ref x2, .ref x3, .int zc, .ref mH, .int zy, .int za, .int zb, .int zs, .int zq, .int zw, .int ze, .ref mY, .int zn, .ref mE, .int zm, .int zl, .ref mW, .int zk, .ref mO, .int zd, .ref y1, .ref y2, .ref y3, .ref y4, .ref mZ])), (mT, .inl (cI, 900, .inl eT))] sz) [(oM, .inr (12, [.ref mT, .int zt', .ref mS, .ref mX, .int zp, .int zf, .ref mL, .ref mB, .ref mD, .ref m1, .ref m2, .int zh, .ref mR, .int zr, .ref x1, .ref x2, .ref x3, .int zc, .ref mH, .int zy, .int za, .int zb, .int zs, .int zq, .int zw, .int ze', .ref mY, .int zn, .ref mE, .int zm, .int zl, .ref mW, .int zk, .ref mO, .int zd, .ref y1, .ref y2, .ref y3, .ref y4, .ref mZ])), (mT, .inl (cI, 900, .inl eT'))] ∧ (0 ≤ zt'.toInt ∧ zt'.toInt ≤ 900) ∧ ((895 < zt.toInt ∧ r.toInt = -1 ∧ zt'.toInt = zt.toInt) ∨ (zt.toInt ≤ 895 ∧ r.toInt = zt.toInt + 5 ∧ zt'.toInt = zt.toInt + 5)) ∧ (F_feed zt zt' r v1 v2 v3 v4 v5 eT eT')) (va_A [(oM, .inr (12, [.ref mT, .int zt, .ref mS, .ref mX, .int zp, .int zf, .ref mL, .ref mB, .ref mD, .ref m1, .ref m2, .int zh, .ref mR, .int zr, .ref x1, .ref x2, .ref x3, .int zc, .ref mH, .int zy, .int za, .int zb, .int zs, .int zq, .int zw, .int ze, .ref mY, .int zn, .ref mE, .int zm, .int zl, .ref mW, .int zk, .ref mO, .int zd, .ref y1, .ref y2, .ref y3, .ref y4, .ref mZ])), (mT, .inl (cI, 900, .inl eT))] sz)) 0 0 (va_A [(oM, .inr (12, [.ref mT, .int zt, .ref mS, .ref mX, .int zp, .int zf, .ref mL, .ref mB, .ref mD, .ref m1, .ref m2, .int zh, .ref mR, .int zr, .ref x1, .ref x2, .ref x3, .int zc, .ref mH, .int zy, .int za, .int zb, .int zs, .int zq, .int zw, .int ze, .ref mY, .int zn, .ref mE, .int zm, .int zl, .ref mW, .int zk, .ref mO, .int zd, .ref y1, .ref y2, .ref y3, .ref y4, .ref mZ])), (mT, .inl (cI, 900, .inl eT))] sz) := by
  refine Met.ofW (cc := cX12_feed) (maxL := 6) (ret := (some .int)) (by decide) rfl ?_
  intro p e s m args below meth c s₁ B hml hv
  obtain ⟨rfl, hsz, hP, hK, hD0⟩ := hv
  have hx := B.exec
  have hb := B.bytes
  have hr := B.returns
  have hts := atoms_spec (ws := wsX12_feed) B.pre
  have hown : s.vm.findClass RX12 = some m.cls := findClass_of_methodNamed B.named
  have hlocks := B.notSynchronized
  have in_X12 : ∀ w ∈ wsX120, w ∈ wsX12_feed := fun _ h => List.mem_cons_of_mem _ (List.mem_append_right _ (h))
  subst hsz
  have hD := hD0.self (sz := s.heap.size)
  generalize hAe : va_A [(oM, .inr (12, [.ref mT, .int zt, .ref mS, .ref mX, .int zp, .int zf, .ref mL, .ref mB, .ref mD, .ref m1, .ref m2, .int zh, .ref mR, .int zr, .ref x1, .ref x2, .ref x3, .int zc, .ref mH, .int zy, .int za, .int zb, .int zs, .int zq, .int zw, .int ze, .ref mY, .int zn, .ref mE, .int zm, .int zl, .ref mW, .int zk, .ref mO, .int zd, .ref y1, .ref y2, .ref y3, .ref y4, .ref mZ])), (mT, .inl (cI, 900, .inl eT))] s.heap.size = A at hD ⊢
  have hA : ∀ q : Nat, s.heap.size ≤ q → A q := fun q h => by rw [← hAe]; exact Or.inr h
  have hS : va_S A s.heap s.heap [] := va_S.rf
  have hP : va_P (dC, dI) vwCl [(oM, .inr (12, [.ref mT, .int zt, .ref mS, .ref mX, .int zp, .int zf, .ref mL, .ref mB, .ref mD, .ref m1, .ref m2, .int zh, .ref mR, .int zr, .ref x1, .ref x2, .ref x3, .int zc, .ref mH, .int zy, .int za, .int zb, .int zs, .int zq, .int zw, .int ze, .ref mY, .int zn, .ref mE, .int zm, .int zl, .ref mW, .int zk, .ref mO, .int zd, .ref y1, .ref y2, .ref y3, .ref y4, .ref mZ])), (mT, .inl (cI, 900, .inl eT))] s.heap := hP
  have hl := lv_entry ([.ref oM, .int v1, .int v2, .int v3, .int v4, .int v5]) (n := 6) (Nat.le_of_ble_eq_true rfl)
  rw [lg_entry_eq]
  generalize (lg_sl ([.ref oM, .int v1, .int v2, .int v3, .int v4, .int v5]) ++ List.replicate (6 - (lg_sl ([.ref oM, .int v1, .int v2, .int v3, .int v4, .int v5])).length) Slot.unset).toArray = ls at hl ⊢
  have hl : lv_has ls 6 [(0, .ref oM), (1, .int v1), (2, .int v2), (3, .int v3), (4, .int v4), (5, .int v5)] := hl
  obtain ⟨QQ, hQQ⟩ : ∃ QQ : Array Value → State → Outcome → State → Prop, QQ = va_Qi (fun (r : Int32) (u : Int32) => r = u) (fun (r : Int32) t => ∃ (ze' : Int32) (zt' : Int32) (eT' : Nat → Int32), va_P (dC, dI) vwCl [(oM, .inr (12, [.ref mT, .int zt', .ref mS, .ref mX, .int zp, .int zf, .ref mL, .ref mB, .ref mD, .ref m1, .ref m2, .int zh, .ref mR, .int zr, .ref x1, .ref x2, .ref x3, .int zc, .ref mH, .int zy, .int za, .int zb, .int zs, .int zq, .int zw, .int ze', .ref mY, .int zn, .ref mE, .int zm, .int zl, .ref mW, .int zk, .ref mO, .int zd, .ref y1, .ref y2, .ref y3, .ref y4, .ref mZ])), (mT, .inl (cI, 900, .inl eT'))] t.heap ∧ va_D A [(oM, .inr (12, [.ref mT, .int zt', .ref mS, .ref mX, .int zp, .int zf, .ref mL, .ref mB, .ref mD, .ref m1, .ref m2, .int zh, .ref mR, .int zr, .ref x1, .ref x2, .ref x3, .int zc, .ref mH, .int zy, .int za, .int zb, .int zs, .int zq, .int zw, .int ze', .ref mY, .int zn, .ref mE, .int zm, .int zl, .ref mW, .int zk, .ref mO, .int zd, .ref y1, .ref y2, .ref y3, .ref y4, .ref mZ])), (mT, .inl (cI, 900, .inl eT'))] ∧ (0 ≤ zt'.toInt ∧ zt'.toInt ≤ 900) ∧ ((895 < zt.toInt ∧ r.toInt = -1 ∧ zt'.toInt = zt.toInt) ∨ (zt.toInt ≤ 895 ∧ r.toInt = zt.toInt + 5 ∧ zt'.toInt = zt.toInt + 5)) ∧ (F_feed zt zt' r v1 v2 v3 v4 v5 eT eT')) A := ⟨_, rfl⟩
  rw [← hQQ]
  refine lv_aload_n hx hb dX12_feed_0 rfl (lv_at hl 0 rfl) ?_
  refine lv_iconst (v := 0) hx hb dX12_feed_1 (by decide) ?_
  refine va_put (D := (dC, dI)) (ci := 12) (v := .int 0) (ty := .int) (C := RX12) (T := TX12) (N := 40) hx hb hts in_X12 tyX12 tyX12_ok nmX12 hown hK hP hD hS 0 rfl rfl 25 (by decide) (hts (.fieldLink RX12 85 "TextMenderModel" "thrown" "I") (List.mem_of_getElem? (i := 1) rfl)) (fun _ h9 => h9) rfl (by decide +kernel) rfl rfl (Nat.le_of_ble_eq_true rfl) dX12_feed_2 (fun H locs hP hD hS => ?_)
  have hP : va_P (dC, dI) vwCl [(oM, .inr (12, [.ref mT, .int zt, .ref mS, .ref mX, .int zp, .int zf, .ref mL, .ref mB, .ref mD, .ref m1, .ref m2, .int zh, .ref mR, .int zr, .ref x1, .ref x2, .ref x3, .int zc, .ref mH, .int zy, .int za, .int zb, .int zs, .int zq, .int zw, .int 0, .ref mY, .int zn, .ref mE, .int zm, .int zl, .ref mW, .int zk, .ref mO, .int zd, .ref y1, .ref y2, .ref y3, .ref y4, .ref mZ])), (mT, .inl (cI, 900, .inl eT))] H := hP
  have hD : va_D A [(oM, .inr (12, [.ref mT, .int zt, .ref mS, .ref mX, .int zp, .int zf, .ref mL, .ref mB, .ref mD, .ref m1, .ref m2, .int zh, .ref mR, .int zr, .ref x1, .ref x2, .ref x3, .int zc, .ref mH, .int zy, .int za, .int zb, .int zs, .int zq, .int zw, .int 0, .ref mY, .int zn, .ref mE, .int zm, .int zl, .ref mW, .int zk, .ref mO, .int zd, .ref y1, .ref y2, .ref y3, .ref y4, .ref mZ])), (mT, .inl (cI, 900, .inl eT))] := hD
  refine lv_aload_n hx hb dX12_feed_5 rfl (lv_at hl 0 rfl) ?_
  refine va_get (D := (dC, dI)) (ci := 12) (v := .int zt) (C := RX12) (T := TX12) (N := 40) hx hb hts in_X12 hown hK hP 0 rfl rfl 1 (by decide) (hts (.fieldLink RX12 151 "TextMenderModel" "taped" "I") (List.mem_of_getElem? (i := 2) rfl)) (fun _ h9 => h9) rfl dX12_feed_6 ?_
  refine lv_iconst (v := 5) hx hb dX12_feed_9 (by decide) ?_
  refine lv_iadd hx hb dX12_feed_10 ?_
  refine lv_topi (fun x_1 ex_1 => ?_)
  have tx_1 : x_1.toInt = zt.toInt + 5 := v_add ex_1 (by show -2147483648 ≤ zt.toInt + 5; omega) (by show zt.toInt + 5 < 2147483648; omega)
  refine lv_sipush (v := 900) hx hb dX12_feed_11 (by decide) ?_
  refine lv_icmp_le (tgt := 19) hx hb dX12_feed_14 (by decide) (fun c_2 => ?_) (fun c_2 => ?_)
  · have tc_2 : x_1.toInt ≤ 900 := v_le c_2
    refine lv_aload_n hx hb dX12_feed_19 rfl (lv_at hl 0 rfl) ?_
    refine va_get (D := (dC, dI)) (ci := 12) (v := .ref mT) (C := RX12) (T := TX12) (N := 40) hx hb hts in_X12 hown hK hP 0 rfl rfl 0 (by decide) (hts (.fieldLink RX12 9 "TextMenderModel" "tape" "[I") (List.mem_of_getElem? (i := 3) rfl)) (fun _ h9 => h9) rfl dX12_feed_20 ?_
    refine lv_aload_n hx hb dX12_feed_23 rfl (lv_at hl 0 rfl) ?_
    refine va_get (D := (dC, dI)) (ci := 12) (v := .int zt) (C := RX12) (T := TX12) (N := 40) hx hb hts in_X12 hown hK hP 0 rfl rfl 1 (by decide) (hts (.fieldLink RX12 151 "TextMenderModel" "taped" "I") (List.mem_of_getElem? (i := 2) rfl)) (fun _ h9 => h9) rfl dX12_feed_24 ?_
    refine lv_iload_n hx hb dX12_feed_27 rfl (lv_at hl 1 rfl) ?_
    refine va_iast hx hb hK hP hD hS 1 0 rfl rfl (v_in (by omega)) dX12_feed_28 (fun H locs hP hD hS => ?_)
    have hP : va_P (dC, dI) vwCl [(oM, .inr (12, [.ref mT, .int zt, .ref mS, .ref mX, .int zp, .int zf, .ref mL, .ref mB, .ref mD, .ref m1, .ref m2, .int zh, .ref mR, .int zr, .ref x1, .ref x2, .ref x3, .int zc, .ref mH, .int zy, .int za, .int zb, .int zs, .int zq, .int zw, .int 0, .ref mY, .int zn, .ref mE, .int zm, .int zl, .ref mW, .int zk, .ref mO, .int zd, .ref y1, .ref y2, .ref y3, .ref y4, .ref mZ])), (mT, .inl (cI, 900, .inl (upd eT (zt : Int32).toNatClampNeg v1)))] H := hP
    have hD : va_D A [(oM, .inr (12, [.ref mT, .int zt, .ref mS, .ref mX, .int zp, .int zf, .ref mL, .ref mB, .ref mD, .ref m1, .ref m2, .int zh, .ref mR, .int zr, .ref x1, .ref x2, .ref x3, .int zc, .ref mH, .int zy, .int za, .int zb, .int zs, .int zq, .int zw, .int 0, .ref mY, .int zn, .ref mE, .int zm, .int zl, .ref mW, .int zk, .ref mO, .int zd, .ref y1, .ref y2, .ref y3, .ref y4, .ref mZ])), (mT, .inl (cI, 900, .inl (upd eT (zt : Int32).toNatClampNeg v1)))] := hD
    obtain ⟨f_3, ef_3⟩ : ∃ g : Nat → Int32, g = upd eT (zt : Int32).toNatClampNeg v1 := ⟨_, rfl⟩
    rw [← ef_3] at hP hD
    refine lv_aload_n hx hb dX12_feed_29 rfl (lv_at hl 0 rfl) ?_
    refine va_get (D := (dC, dI)) (ci := 12) (v := .ref mT) (C := RX12) (T := TX12) (N := 40) hx hb hts in_X12 hown hK hP 0 rfl rfl 0 (by decide) (hts (.fieldLink RX12 9 "TextMenderModel" "tape" "[I") (List.mem_of_getElem? (i := 3) rfl)) (fun _ h9 => h9) rfl dX12_feed_30 ?_
    refine lv_aload_n hx hb dX12_feed_33 rfl (lv_at hl 0 rfl) ?_
    refine va_get (D := (dC, dI)) (ci := 12) (v := .int zt) (C := RX12) (T := TX12) (N := 40) hx hb hts in_X12 hown hK hP 0 rfl rfl 1 (by decide) (hts (.fieldLink RX12 151 "TextMenderModel" "taped" "I") (List.mem_of_getElem? (i := 2) rfl)) (fun _ h9 => h9) rfl dX12_feed_34 ?_
    refine lv_iconst (v := 1) hx hb dX12_feed_37 (by decide) ?_
    refine lv_iadd hx hb dX12_feed_38 ?_
    refine lv_topi (fun x_4 ex_4 => ?_)
    have tx_4 : x_4.toInt = zt.toInt + 1 := v_add ex_4 (by show -2147483648 ≤ zt.toInt + 1; omega) (by show zt.toInt + 1 < 2147483648; omega)
    refine lv_iload_n hx hb dX12_feed_39 rfl (lv_at hl 2 rfl) ?_
    refine va_iast hx hb hK hP hD hS 1 0 rfl rfl (v_in (by omega)) dX12_feed_40 (fun H locs hP hD hS => ?_)
    have hP : va_P (dC, dI) vwCl [(oM, .inr (12, [.ref mT, .int zt, .ref mS, .ref mX, .int zp, .int zf, .ref mL, .ref mB, .ref mD, .ref m1, .ref m2, .int zh, .ref mR, .int zr, .ref x1, .ref x2, .ref x3, .int zc, .ref mH, .int zy, .int za, .int zb, .int zs, .int zq, .int zw, .int 0, .ref mY, .int zn, .ref mE, .int zm, .int zl, .ref mW, .int zk, .ref mO, .int zd, .ref y1, .ref y2, .ref y3, .ref y4, .ref mZ])), (mT, .inl (cI, 900, .inl (upd f_3 (x_4 : Int32).toNatClampNeg v2)))] H := hP
    have hD : va_D A [(oM, .inr (12, [.ref mT, .int zt, .ref mS, .ref mX, .int zp, .int zf, .ref mL, .ref mB, .ref mD, .ref m1, .ref m2, .int zh, .ref mR, .int zr, .ref x1, .ref x2, .ref x3, .int zc, .ref mH, .int zy, .int za, .int zb, .int zs, .int zq, .int zw, .int 0, .ref mY, .int zn, .ref mE, .int zm, .int zl, .ref mW, .int zk, .ref mO, .int zd, .ref y1, .ref y2, .ref y3, .ref y4, .ref mZ])), (mT, .inl (cI, 900, .inl (upd f_3 (x_4 : Int32).toNatClampNeg v2)))] := hD
    obtain ⟨f_5, ef_5⟩ : ∃ g : Nat → Int32, g = upd f_3 (x_4 : Int32).toNatClampNeg v2 := ⟨_, rfl⟩
    rw [← ef_5] at hP hD
    refine lv_aload_n hx hb dX12_feed_41 rfl (lv_at hl 0 rfl) ?_
    refine va_get (D := (dC, dI)) (ci := 12) (v := .ref mT) (C := RX12) (T := TX12) (N := 40) hx hb hts in_X12 hown hK hP 0 rfl rfl 0 (by decide) (hts (.fieldLink RX12 9 "TextMenderModel" "tape" "[I") (List.mem_of_getElem? (i := 3) rfl)) (fun _ h9 => h9) rfl dX12_feed_42 ?_
    refine lv_aload_n hx hb dX12_feed_45 rfl (lv_at hl 0 rfl) ?_
    refine va_get (D := (dC, dI)) (ci := 12) (v := .int zt) (C := RX12) (T := TX12) (N := 40) hx hb hts in_X12 hown hK hP 0 rfl rfl 1 (by decide) (hts (.fieldLink RX12 151 "TextMenderModel" "taped" "I") (List.mem_of_getElem? (i := 2) rfl)) (fun _ h9 => h9) rfl dX12_feed_46 ?_
    refine lv_iconst (v := 2) hx hb dX12_feed_49 (by decide) ?_
    refine lv_iadd hx hb dX12_feed_50 ?_
    refine lv_topi (fun x_6 ex_6 => ?_)
    have tx_6 : x_6.toInt = zt.toInt + 2 := v_add ex_6 (by show -2147483648 ≤ zt.toInt + 2; omega) (by show zt.toInt + 2 < 2147483648; omega)
    refine lv_iload_n hx hb dX12_feed_51 rfl (lv_at hl 3 rfl) ?_
    refine va_iast hx hb hK hP hD hS 1 0 rfl rfl (v_in (by omega)) dX12_feed_52 (fun H locs hP hD hS => ?_)
    have hP : va_P (dC, dI) vwCl [(oM, .inr (12, [.ref mT, .int zt, .ref mS, .ref mX, .int zp, .int zf, .ref mL, .ref mB, .ref mD, .ref m1, .ref m2, .int zh, .ref mR, .int zr, .ref x1, .ref x2, .ref x3, .int zc, .ref mH, .int zy, .int za, .int zb, .int zs, .int zq, .int zw, .int 0, .ref mY, .int zn, .ref mE, .int zm, .int zl, .ref mW, .int zk, .ref mO, .int zd, .ref y1, .ref y2, .ref y3, .ref y4, .ref mZ])), (mT, .inl (cI, 900, .inl (upd f_5 (x_6 : Int32).toNatClampNeg v3)))] H := hP
    have hD : va_D A [(oM, .inr (12, [.ref mT, .int zt, .ref mS, .ref mX, .int zp, .int zf, .ref mL, .ref mB, .ref mD, .ref m1, .ref m2, .int zh, .ref mR, .int zr, .ref x1, .ref x2, .ref x3, .int zc, .ref mH, .int zy, .int za, .int zb, .int zs, .int zq, .int zw, .int 0, .ref mY, .int zn, .ref mE, .int zm, .int zl, .ref mW, .int zk, .ref mO, .int zd, .ref y1, .ref y2, .ref y3, .ref y4, .ref mZ])), (mT, .inl (cI, 900, .inl (upd f_5 (x_6 : Int32).toNatClampNeg v3)))] := hD
    obtain ⟨f_7, ef_7⟩ : ∃ g : Nat → Int32, g = upd f_5 (x_6 : Int32).toNatClampNeg v3 := ⟨_, rfl⟩
    rw [← ef_7] at hP hD
    refine lv_aload_n hx hb dX12_feed_53 rfl (lv_at hl 0 rfl) ?_
    refine va_get (D := (dC, dI)) (ci := 12) (v := .ref mT) (C := RX12) (T := TX12) (N := 40) hx hb hts in_X12 hown hK hP 0 rfl rfl 0 (by decide) (hts (.fieldLink RX12 9 "TextMenderModel" "tape" "[I") (List.mem_of_getElem? (i := 3) rfl)) (fun _ h9 => h9) rfl dX12_feed_54 ?_
    refine lv_aload_n hx hb dX12_feed_57 rfl (lv_at hl 0 rfl) ?_
    refine va_get (D := (dC, dI)) (ci := 12) (v := .int zt) (C := RX12) (T := TX12) (N := 40) hx hb hts in_X12 hown hK hP 0 rfl rfl 1 (by decide) (hts (.fieldLink RX12 151 "TextMenderModel" "taped" "I") (List.mem_of_getElem? (i := 2) rfl)) (fun _ h9 => h9) rfl dX12_feed_58 ?_
    refine lv_iconst (v := 3) hx hb dX12_feed_61 (by decide) ?_
    refine lv_iadd hx hb dX12_feed_62 ?_
    refine lv_topi (fun x_8 ex_8 => ?_)
    have tx_8 : x_8.toInt = zt.toInt + 3 := v_add ex_8 (by show -2147483648 ≤ zt.toInt + 3; omega) (by show zt.toInt + 3 < 2147483648; omega)
    refine lv_iload hx hb dX12_feed_63 (lv_at hl 4 rfl) ?_
    refine va_iast hx hb hK hP hD hS 1 0 rfl rfl (v_in (by omega)) dX12_feed_65 (fun H locs hP hD hS => ?_)
    have hP : va_P (dC, dI) vwCl [(oM, .inr (12, [.ref mT, .int zt, .ref mS, .ref mX, .int zp, .int zf, .ref mL, .ref mB, .ref mD, .ref m1, .ref m2, .int zh, .ref mR, .int zr, .ref x1, .ref x2, .ref x3, .int zc, .ref mH, .int zy, .int za, .int zb, .int zs, .int zq, .int zw, .int 0, .ref mY, .int zn, .ref mE, .int zm, .int zl, .ref mW, .int zk, .ref mO, .int zd, .ref y1, .ref y2, .ref y3, .ref y4, .ref mZ])), (mT, .inl (cI, 900, .inl (upd f_7 (x_8 : Int32).toNatClampNeg v4)))] H := hP
    have hD : va_D A [(oM, .inr (12, [.ref mT, .int zt, .ref mS, .ref mX, .int zp, .int zf, .ref mL, .ref mB, .ref mD, .ref m1, .ref m2, .int zh, .ref mR, .int zr, .ref x1, .ref x2, .ref x3, .int zc, .ref mH, .int zy, .int za, .int zb, .int zs, .int zq, .int zw, .int 0, .ref mY, .int zn, .ref mE, .int zm, .int zl, .ref mW, .int zk, .ref mO, .int zd, .ref y1, .ref y2, .ref y3, .ref y4, .ref mZ])), (mT, .inl (cI, 900, .inl (upd f_7 (x_8 : Int32).toNatClampNeg v4)))] := hD
    obtain ⟨f_9, ef_9⟩ : ∃ g : Nat → Int32, g = upd f_7 (x_8 : Int32).toNatClampNeg v4 := ⟨_, rfl⟩
    rw [← ef_9] at hP hD
    refine lv_aload_n hx hb dX12_feed_66 rfl (lv_at hl 0 rfl) ?_
    refine va_get (D := (dC, dI)) (ci := 12) (v := .ref mT) (C := RX12) (T := TX12) (N := 40) hx hb hts in_X12 hown hK hP 0 rfl rfl 0 (by decide) (hts (.fieldLink RX12 9 "TextMenderModel" "tape" "[I") (List.mem_of_getElem? (i := 3) rfl)) (fun _ h9 => h9) rfl dX12_feed_67 ?_
    refine lv_aload_n hx hb dX12_feed_70 rfl (lv_at hl 0 rfl) ?_
    refine va_get (D := (dC, dI)) (ci := 12) (v := .int zt) (C := RX12) (T := TX12) (N := 40) hx hb hts in_X12 hown hK hP 0 rfl rfl 1 (by decide) (hts (.fieldLink RX12 151 "TextMenderModel" "taped" "I") (List.mem_of_getElem? (i := 2) rfl)) (fun _ h9 => h9) rfl dX12_feed_71 ?_
    refine lv_iconst (v := 4) hx hb dX12_feed_74 (by decide) ?_
    refine lv_iadd hx hb dX12_feed_75 ?_
    refine lv_topi (fun x_10 ex_10 => ?_)
    have tx_10 : x_10.toInt = zt.toInt + 4 := v_add ex_10 (by show -2147483648 ≤ zt.toInt + 4; omega) (by show zt.toInt + 4 < 2147483648; omega)
    refine lv_iload hx hb dX12_feed_76 (lv_at hl 5 rfl) ?_
    refine va_iast hx hb hK hP hD hS 1 0 rfl rfl (v_in (by omega)) dX12_feed_78 (fun H locs hP hD hS => ?_)
    have hP : va_P (dC, dI) vwCl [(oM, .inr (12, [.ref mT, .int zt, .ref mS, .ref mX, .int zp, .int zf, .ref mL, .ref mB, .ref mD, .ref m1, .ref m2, .int zh, .ref mR, .int zr, .ref x1, .ref x2, .ref x3, .int zc, .ref mH, .int zy, .int za, .int zb, .int zs, .int zq, .int zw, .int 0, .ref mY, .int zn, .ref mE, .int zm, .int zl, .ref mW, .int zk, .ref mO, .int zd, .ref y1, .ref y2, .ref y3, .ref y4, .ref mZ])), (mT, .inl (cI, 900, .inl (upd f_9 (x_10 : Int32).toNatClampNeg v5)))] H := hP
    have hD : va_D A [(oM, .inr (12, [.ref mT, .int zt, .ref mS, .ref mX, .int zp, .int zf, .ref mL, .ref mB, .ref mD, .ref m1, .ref m2, .int zh, .ref mR, .int zr, .ref x1, .ref x2, .ref x3, .int zc, .ref mH, .int zy, .int za, .int zb, .int zs, .int zq, .int zw, .int 0, .ref mY, .int zn, .ref mE, .int zm, .int zl, .ref mW, .int zk, .ref mO, .int zd, .ref y1, .ref y2, .ref y3, .ref y4, .ref mZ])), (mT, .inl (cI, 900, .inl (upd f_9 (x_10 : Int32).toNatClampNeg v5)))] := hD
    obtain ⟨f_11, ef_11⟩ : ∃ g : Nat → Int32, g = upd f_9 (x_10 : Int32).toNatClampNeg v5 := ⟨_, rfl⟩
    rw [← ef_11] at hP hD
    refine lv_aload_n hx hb dX12_feed_79 rfl (lv_at hl 0 rfl) ?_
    refine lv_dup hx hb dX12_feed_80 rfl ?_
    refine va_get (D := (dC, dI)) (ci := 12) (v := .int zt) (C := RX12) (T := TX12) (N := 40) hx hb hts in_X12 hown hK hP 0 rfl rfl 1 (by decide) (hts (.fieldLink RX12 151 "TextMenderModel" "taped" "I") (List.mem_of_getElem? (i := 2) rfl)) (fun _ h9 => h9) rfl dX12_feed_81 ?_
    refine lv_iconst (v := 5) hx hb dX12_feed_84 (by decide) ?_
    refine lv_iadd hx hb dX12_feed_85 ?_
    refine lv_topi (fun x_12 ex_12 => ?_)
    have tx_12 : x_12.toInt = zt.toInt + 5 := v_add ex_12 (by show -2147483648 ≤ zt.toInt + 5; omega) (by show zt.toInt + 5 < 2147483648; omega)
    refine va_put (D := (dC, dI)) (ci := 12) (v := .int x_12) (ty := .int) (C := RX12) (T := TX12) (N := 40) hx hb hts in_X12 tyX12 tyX12_ok nmX12 hown hK hP hD hS 0 rfl rfl 1 (by decide) (hts (.fieldLink RX12 151 "TextMenderModel" "taped" "I") (List.mem_of_getElem? (i := 2) rfl)) (fun _ h9 => h9) rfl (by decide +kernel) rfl rfl (Nat.le_of_ble_eq_true rfl) dX12_feed_86 (fun H locs hP hD hS => ?_)
    have hP : va_P (dC, dI) vwCl [(oM, .inr (12, [.ref mT, .int x_12, .ref mS, .ref mX, .int zp, .int zf, .ref mL, .ref mB, .ref mD, .ref m1, .ref m2, .int zh, .ref mR, .int zr, .ref x1, .ref x2, .ref x3, .int zc, .ref mH, .int zy, .int za, .int zb, .int zs, .int zq, .int zw, .int 0, .ref mY, .int zn, .ref mE, .int zm, .int zl, .ref mW, .int zk, .ref mO, .int zd, .ref y1, .ref y2, .ref y3, .ref y4, .ref mZ])), (mT, .inl (cI, 900, .inl f_11))] H := hP
    have hD : va_D A [(oM, .inr (12, [.ref mT, .int x_12, .ref mS, .ref mX, .int zp, .int zf, .ref mL, .ref mB, .ref mD, .ref m1, .ref m2, .int zh, .ref mR, .int zr, .ref x1, .ref x2, .ref x3, .int zc, .ref mH, .int zy, .int za, .int zb, .int zs, .int zq, .int zw, .int 0, .ref mY, .int zn, .ref mE, .int zm, .int zl, .ref mW, .int zk, .ref mO, .int zd, .ref y1, .ref y2, .ref y3, .ref y4, .ref mZ])), (mT, .inl (cI, 900, .inl f_11))] := hD
    refine lv_aload_n hx hb dX12_feed_89 rfl (lv_at hl 0 rfl) ?_
    refine va_get (D := (dC, dI)) (ci := 12) (v := .int x_12) (C := RX12) (T := TX12) (N := 40) hx hb hts in_X12 hown hK hP 0 rfl rfl 1 (by decide) (hts (.fieldLink RX12 151 "TextMenderModel" "taped" "I") (List.mem_of_getElem? (i := 2) rfl)) (fun _ h9 => h9) rfl dX12_feed_90 ?_
    have hP9 := hP.sub (ws' := [(oM, .inr (12, [.ref mT, .int x_12, .ref mS, .ref mX, .int zp, .int zf, .ref mL, .ref mB, .ref mD, .ref m1, .ref m2, .int zh, .ref mR, .int zr, .ref x1, .ref x2, .ref x3, .int zc, .ref mH, .int zy, .int za, .int zb, .int zs, .int zq, .int zw, .int 0, .ref mY, .int zn, .ref mE, .int zm, .int zl, .ref mW, .int zk, .ref mO, .int zd, .ref y1, .ref y2, .ref y3, .ref y4, .ref mZ])), (mT, .inl (cI, 900, .inl f_11))]) [0, 1] rfl
    have hD9 := hD.sub (ws' := [(oM, .inr (12, [.ref mT, .int x_12, .ref mS, .ref mX, .int zp, .int zf, .ref mL, .ref mB, .ref mD, .ref m1, .ref m2, .int zh, .ref mR, .int zr, .ref x1, .ref x2, .ref x3, .int zc, .ref mH, .int zy, .int za, .int zb, .int zs, .int zq, .int zw, .int 0, .ref mY, .int zn, .ref mE, .int zm, .int zl, .ref mW, .int zk, .ref mO, .int zd, .ref y1, .ref y2, .ref y3, .ref y4, .ref mZ])), (mT, .inl (cI, 900, .inl f_11))]) [0, 1] (by decide) rfl
    rw [hQQ]
    exact W.iret (v := x_12) hx hb hr (fun t ht hW => ⟨⟨x_12, x_12, rfl, rfl, ⟨0, x_12, f_11, by rw [ht]; exact hP9, hD9, by omega, by show (895 < zt.toInt ∧ x_12.toInt = -1 ∧ x_12.toInt = zt.toInt) ∨ (zt.toInt ≤ 895 ∧ x_12.toInt = zt.toInt + 5 ∧ x_12.toInt = zt.toInt + 5); omega, Or.inr ⟨by omega, by omega, by omega, feed5 (by omega) (k0 := zt) rfl (by omega) (by omega) (by omega) (by omega) ef_3 ef_5 ef_7 ef_9 ef_11⟩⟩⟩, hS.F ht⟩) hS.2.2 dX12_feed_93
  · have tc_2 : 900 < x_1.toInt := v_nle c_2
    refine lv_iconst (v := (-1)) hx hb dX12_feed_17 (by decide) ?_
    have hP9 := hP.sub (ws' := [(oM, .inr (12, [.ref mT, .int zt, .ref mS, .ref mX, .int zp, .int zf, .ref mL, .ref mB, .ref mD, .ref m1, .ref m2, .int zh, .ref mR, .int zr, .ref x1, .ref x2, .ref x3, .int zc, .ref mH, .int zy, .int za, .int zb, .int zs, .int zq, .int zw, .int 0, .ref mY, .int zn, .ref mE, .int zm, .int zl, .ref mW, .int zk, .ref mO, .int zd, .ref y1, .ref y2, .ref y3, .ref y4, .ref mZ])), (mT, .inl (cI, 900, .inl eT))]) [0, 1] rfl
    have hD9 := hD.sub (ws' := [(oM, .inr (12, [.ref mT, .int zt, .ref mS, .ref mX, .int zp, .int zf, .ref mL, .ref mB, .ref mD, .ref m1, .ref m2, .int zh, .ref mR, .int zr, .ref x1, .ref x2, .ref x3, .int zc, .ref mH, .int zy, .int za, .int zb, .int zs, .int zq, .int zw, .int 0, .ref mY, .int zn, .ref mE, .int zm, .int zl, .ref mW, .int zk, .ref mO, .int zd, .ref y1, .ref y2, .ref y3, .ref y4, .ref mZ])), (mT, .inl (cI, 900, .inl eT))]) [0, 1] (by decide) rfl
    rw [hQQ]
    exact W.iret (v := (-1)) hx hb hr (fun t ht hW => ⟨⟨(-1), (-1), rfl, rfl, ⟨0, zt, eT, by rw [ht]; exact hP9, hD9, by omega, by show (895 < zt.toInt ∧ (-1) = -1 ∧ zt.toInt = zt.toInt) ∨ (zt.toInt ≤ 895 ∧ (-1) = zt.toInt + 5 ∧ zt.toInt = zt.toInt + 5); omega, Or.inl ⟨by omega, by decide, rfl, rfl⟩⟩⟩, hS.F ht⟩) hS.2.2 dX12_feed_18

set_option maxHeartbeats 40000000 in
set_option maxRecDepth 100000 in
theorem f_X11_tapeHoldsLetters (l : Launch) (dC : Nat → ClassId) (dI : Nat → Nat → Nat) (cI cS : ClassId) (sz : Nat) (oX : Nat) (nT : Nat) (nL : Nat) (nM : Nat) (oC : Nat) (oP : Nat) (oH : Nat) (oK : Nat) (oG : Nat) (oR : Nat) (oQ : Nat) (oW : Nat) (aT : Nat) (fa : Int32) (lT : Int32) (fT : Nat → Int32) (g_lT : 0 ≤ lT.toInt ∧ lT.toInt ≤ 900) : Met l yX11_tapeHoldsLetters wsX11_tapeHoldsLetters ({ frames := 1, cells := 0, slots := 0, locals := 21 } : Room) (va_Pc [.ref oX] (fun U => U.heap.size = sz ∧ va_P (dC, dI) vwCl [(oX, .inr (11, [.ref nT, .ref nL, .ref nM, .ref oC, .ref oP, .ref oH, .ref oK, .ref oG, .ref oR, .ref oQ, .ref oW, .int fa])), (nT, .inr (5, [.ref aT, .int lT])), (aT, .inl (cI, 900, .inl fT))] U.heap ∧ va_K (dC, dI) vwCl [(cI, .int), (cS, .short)] U ∧ va_D (fun _ => True) [(oX, .inr (11, [.ref nT, .ref nL, .ref nM, .ref oC, .ref oP, .ref oH, .ref oK, .ref oG, .ref oR, .ref oQ, .ref oW, .int fa])), (nT, .inr (5, [.ref aT, .int lT])), (aT, .inl (cI, 900, .inl fT))])) (va_Qi (fun (r : Int32) (u : Int32) => r = u) (fun (r : Int32) t => ∃ (fa' : Int32), va_P (dC, dI) vwCl [(oX, .inr (11, [.ref nT, .ref nL, .ref nM, .ref oC, .ref oP, .ref oH, .ref oK, .ref oG, .ref oR, .ref oQ, .ref oW, .int fa'])), (nT, .inr (5, [.ref aT, .int lT])), (aT, .inl (cI, 900, .inl fT))] t.heap ∧ va_D (va_A [(oX, .inr (11, [.ref nT, .ref nL, .ref nM, .ref oC, .ref oP, .ref oH, .ref oK, .ref oG, .ref oR, .ref oQ, .ref oW, .int fa])), (nT, .inr (5, [.ref aT, .int lT])), (aT, .inl (cI, 900, .inl fT))] sz) [(oX, .inr (11, [.ref nT, .ref nL, .ref nM, .ref oC, .ref oP, .ref oH, .ref oK, .ref oG, .ref oR, .ref oQ, .ref oW, .int fa'])), (nT, .inr (5, [.ref aT, .int lT])), (aT, .inl (cI, 900, .inl fT))] ∧ (0 ≤ r.toInt ∧ r.toInt ≤ 1) ∧ (F_allL lT r fT)) (va_A [(oX, .inr (11, [.ref nT, .ref nL, .ref nM, .ref oC, .ref oP, .ref oH, .ref oK, .ref oG, .ref oR, .ref oQ, .ref oW, .int fa])), (nT, .inr (5, [.ref aT, .int lT])), (aT, .inl (cI, 900, .inl fT))] sz)) 0 0 (va_A [(oX, .inr (11, [.ref nT, .ref nL, .ref nM, .ref oC, .ref oP, .ref oH, .ref oK, .ref oG, .ref oR, .ref oQ, .ref oW, .int fa])), (nT, .inr (5, [.ref aT, .int lT])), (aT, .inl (cI, 900, .inl fT))] sz) := by
  refine Met.ofW (cc := cX11_tapeHoldsLetters) (maxL := 2) (ret := (some .boolean)) (by decide) rfl ?_
  intro p e s m args below meth c s₁ B hml hv
  obtain ⟨rfl, hsz, hP, hK, hD0⟩ := hv
  have hx := B.exec
  have hb := B.bytes
  have hr := B.returns
  have hts := atoms_spec (ws := wsX11_tapeHoldsLetters) B.pre
  have hown : s.vm.findClass RX11 = some m.cls := findClass_of_methodNamed B.named
  have hlocks := B.notSynchronized
  have in_X11 : ∀ w ∈ wsX110, w ∈ wsX11_tapeHoldsLetters := fun _ h => List.mem_cons_of_mem _ (List.mem_append_left _ (List.mem_append_right _ (h)))
  subst hsz
  have hD := hD0.self (sz := s.heap.size)
  generalize hAe : va_A [(oX, .inr (11, [.ref nT, .ref nL, .ref nM, .ref oC, .ref oP, .ref oH, .ref oK, .ref oG, .ref oR, .ref oQ, .ref oW, .int fa])), (nT, .inr (5, [.ref aT, .int lT])), (aT, .inl (cI, 900, .inl fT))] s.heap.size = A at hD ⊢
  have hA : ∀ q : Nat, s.heap.size ≤ q → A q := fun q h => by rw [← hAe]; exact Or.inr h
  have hS : va_S A s.heap s.heap [] := va_S.rf
  have hP : va_P (dC, dI) vwCl [(oX, .inr (11, [.ref nT, .ref nL, .ref nM, .ref oC, .ref oP, .ref oH, .ref oK, .ref oG, .ref oR, .ref oQ, .ref oW, .int fa])), (nT, .inr (5, [.ref aT, .int lT])), (aT, .inl (cI, 900, .inl fT))] s.heap := hP
  have hl := lv_entry ([.ref oX]) (n := 2) (Nat.le_of_ble_eq_true rfl)
  rw [lg_entry_eq]
  generalize (lg_sl ([.ref oX]) ++ List.replicate (2 - (lg_sl ([.ref oX])).length) Slot.unset).toArray = ls at hl ⊢
  have hl : lv_has ls 2 [(0, .ref oX)] := hl
  obtain ⟨QQ, hQQ⟩ : ∃ QQ : Array Value → State → Outcome → State → Prop, QQ = va_Qi (fun (r : Int32) (u : Int32) => r = u) (fun (r : Int32) t => ∃ (fa' : Int32), va_P (dC, dI) vwCl [(oX, .inr (11, [.ref nT, .ref nL, .ref nM, .ref oC, .ref oP, .ref oH, .ref oK, .ref oG, .ref oR, .ref oQ, .ref oW, .int fa'])), (nT, .inr (5, [.ref aT, .int lT])), (aT, .inl (cI, 900, .inl fT))] t.heap ∧ va_D A [(oX, .inr (11, [.ref nT, .ref nL, .ref nM, .ref oC, .ref oP, .ref oH, .ref oK, .ref oG, .ref oR, .ref oQ, .ref oW, .int fa'])), (nT, .inr (5, [.ref aT, .int lT])), (aT, .inl (cI, 900, .inl fT))] ∧ (0 ≤ r.toInt ∧ r.toInt ≤ 1) ∧ (F_allL lT r fT)) A := ⟨_, rfl⟩
  rw [← hQQ]
  refine lv_iconst (v := 0) hx hb dX11_tapeHoldsLetters_0 (by decide) ?_
  refine lv_istore_n (lv' := [(1, .int 0), (0, .ref oX)]) hx hb dX11_tapeHoldsLetters_1 rfl hl (by decide) rfl (fun ls hl => ?_)
  have LOOP_2 : ∀ (k_2 : Nat) (i : Int32) (H : Heap) (locs : List Loc) (ls : Array Slot), (900 - i.toInt : Int).toNat < k_2 → (0 ≤ i.toInt ∧ i.toInt ≤ 900) → (allLt i.toInt fT) → va_P (dC, dI) vwCl [(oX, .inr (11, [.ref nT, .ref nL, .ref nM, .ref oC, .ref oP, .ref oH, .ref oK, .ref oG, .ref oR, .ref oQ, .ref oW, .int fa])), (nT, .inr (5, [.ref aT, .int lT])), (aT, .inl (cI, 900, .inl fT))] H → va_D A [(oX, .inr (11, [.ref nT, .ref nL, .ref nM, .ref oC, .ref oP, .ref oH, .ref oK, .ref oG, .ref oR, .ref oQ, .ref oW, .int fa])), (nT, .inr (5, [.ref aT, .int lT])), (aT, .inl (cI, 900, .inl fT))] → va_S A s.heap H locs → lv_has ls 2 [(1, .int i), (0, .ref oX)] → W p l e (headSpec wsX11_tapeHoldsLetters ({ frames := 1, cells := 0, slots := 0, locals := 21 } : Room)).room s m ([.ref oX] : List Value).toArray below meth c H locs 0 0 (MQ below QQ ([.ref oX] : List Value).toArray s 0 0 A) (F0 m 2 ls []) := by
    intro k_2
    induction k_2 with
    | zero =>
      intro i H locs ls hm_2 g_i hal hP hD hS hl
      exact absurd hm_2 (Nat.not_lt_zero _)
    | succ k_2 ih_2 =>
      intro i H locs ls hm_2 g_i hal hP hD hS hl
      refine lv_iload_n hx hb dX11_tapeHoldsLetters_2 rfl (lv_at hl 0 rfl) ?_
      refine lv_aload_n hx hb dX11_tapeHoldsLetters_3 rfl (lv_at hl 1 rfl) ?_
      refine va_get (D := (dC, dI)) (ci := 11) (v := .ref nT) (C := RX11) (T := TX11) (N := 12) hx hb hts in_X11 hown hK hP 0 rfl rfl 0 (by decide) (hts (.fieldLink RX11 30 "TextMender" "tape" "LTextMender$Numbers;") (List.mem_of_getElem? (i := 1) rfl)) (fun _ h9 => h9) rfl dX11_tapeHoldsLetters_4 ?_
      have hPc := hP.sub (ws' := [(nT, .inr (5, [.ref aT, .int lT]))]) [1] rfl
      have hDc := hD.sub (ws' := [(nT, .inr (5, [.ref aT, .int lT]))]) [1] (by decide) rfl
      have hFc := va_free (wc := [(nT, .inr (5, [.ref aT, .int lT]))]) hD hS hA [1] rfl
      refine va_calli (va_runV (As := []) (rest := [.int i]) ⟨hx, hb, hml, hown, hts⟩ (m_X5_length l dC dI cI cS H.size nT aT lT ) (cwV 0 hts gX11_tapeHoldsLetters_X5_length rfl rfl rfl (by decide +kernel) ⟨Nat.le_of_ble_eq_true rfl, Nat.le_of_ble_eq_true rfl⟩) ⟨fun a U g mk q => by obtain ⟨q0, q1, qP, qK, qD⟩ := q; exact ⟨q0, q1, qP, va_K.moved (u := U) (U := U.calling g mk a) (Vm.Alike.refl U.vm) qK, qD⟩, va_recv hK hPc (ci := 5) (q0 := 0) rfl rfl, fun U hU hW => ⟨rfl, by rw [hU], by rw [hU]; exact hPc, va_K.moved hW.alike hK, hDc.weaken (fun _ _ _ _ => trivial)⟩⟩ rfl rfl hl.1 rfl (lv_room (Nat.le_of_ble_eq_true rfl)) dX11_tapeHoldsLetters_7 ⟨Nat.le_of_ble_eq_true rfl, Nat.le_of_ble_eq_true rfl⟩) hS (fun q _ h => hFc q h) hFc (fun r_1 u t H1 locs ht hvm hw hB hz1 hk1 hS => ?_)
      subst hw
      obtain ⟨hP1, hD1, hf1_0⟩ := hB
      rw [ht] at hP1
      obtain ⟨hP, hD⟩ := va_join (wr := [(oX, .inr (11, [.ref nT, .ref nL, .ref nM, .ref oC, .ref oP, .ref oH, .ref oK, .ref oG, .ref oR, .ref oQ, .ref oW, .int fa])), (aT, .inl (cI, 900, .inl fT))]) (w1 := [(nT, .inr (5, [.ref aT, .int lT]))]) hP hD [1] [0, 2] rfl rfl (by decide) (by decide) hk1 hFc hP1 hD1
      generalize H1 = H at hP hS ⊢
      have hP : va_P (dC, dI) vwCl [(oX, .inr (11, [.ref nT, .ref nL, .ref nM, .ref oC, .ref oP, .ref oH, .ref oK, .ref oG, .ref oR, .ref oQ, .ref oW, .int fa])), (aT, .inl (cI, 900, .inl fT)), (nT, .inr (5, [.ref aT, .int lT]))] H := hP
      have hD : va_D A [(oX, .inr (11, [.ref nT, .ref nL, .ref nM, .ref oC, .ref oP, .ref oH, .ref oK, .ref oG, .ref oR, .ref oQ, .ref oW, .int fa])), (aT, .inl (cI, 900, .inl fT)), (nT, .inr (5, [.ref aT, .int lT]))] := hD
      rw [hf1_0]
      refine lv_icmp_ge (tgt := 40) hx hb dX11_tapeHoldsLetters_10 (by decide) (fun c_2 => ?_) (fun c_2 => ?_)
      · have tc_2 : lT.toInt ≤ i.toInt := v_le c_2
        refine lv_iconst (v := 1) hx hb dX11_tapeHoldsLetters_40 (by decide) ?_
        have hP9 := hP.sub (ws' := [(oX, .inr (11, [.ref nT, .ref nL, .ref nM, .ref oC, .ref oP, .ref oH, .ref oK, .ref oG, .ref oR, .ref oQ, .ref oW, .int fa])), (nT, .inr (5, [.ref aT, .int lT])), (aT, .inl (cI, 900, .inl fT))]) [0, 2, 1] rfl
        have hD9 := hD.sub (ws' := [(oX, .inr (11, [.ref nT, .ref nL, .ref nM, .ref oC, .ref oP, .ref oH, .ref oK, .ref oG, .ref oR, .ref oQ, .ref oW, .int fa])), (nT, .inr (5, [.ref aT, .int lT])), (aT, .inl (cI, 900, .inl fT))]) [0, 2, 1] (by decide) rfl
        rw [hQQ]
        exact W.zret (v := 1) (ty := .boolean) hx hb hr (rfl) (fun t ht hW => ⟨⟨1, 1, rfl, rfl, ⟨fa, by rw [ht]; exact hP9, hD9, by decide, Or.inl ⟨rfl, fun j hj => hal j (by omega)⟩⟩⟩, hS.F ht⟩) hS.2.2 dX11_tapeHoldsLetters_41
      · have tc_2 : i.toInt < lT.toInt := v_nle c_2
        refine lv_aload_n hx hb dX11_tapeHoldsLetters_13 rfl (lv_at hl 1 rfl) ?_
        refine va_get (D := (dC, dI)) (ci := 11) (v := .ref nT) (C := RX11) (T := TX11) (N := 12) hx hb hts in_X11 hown hK hP 0 rfl rfl 0 (by decide) (hts (.fieldLink RX11 30 "TextMender" "tape" "LTextMender$Numbers;") (List.mem_of_getElem? (i := 1) rfl)) (fun _ h9 => h9) rfl dX11_tapeHoldsLetters_14 ?_
        refine lv_iload_n hx hb dX11_tapeHoldsLetters_17 rfl (lv_at hl 0 rfl) ?_
        have hPc := hP.sub (ws' := [(nT, .inr (5, [.ref aT, .int lT])), (aT, .inl (cI, 900, .inl fT))]) [2, 1] rfl
        have hDc := hD.sub (ws' := [(nT, .inr (5, [.ref aT, .int lT])), (aT, .inl (cI, 900, .inl fT))]) [2, 1] (by decide) rfl
        have hFc := va_free (wc := [(nT, .inr (5, [.ref aT, .int lT])), (aT, .inl (cI, 900, .inl fT))]) hD hS hA [2, 1] rfl
        refine va_calli (va_runV (As := [.int i]) (rest := []) ⟨hx, hb, hml, hown, hts⟩ (m_X5_get l dC dI cI cS H.size nT aT 900 lT fT i (by omega) (by omega)) (cwV 1 hts gX11_tapeHoldsLetters_X5_get rfl rfl rfl (by decide +kernel) ⟨Nat.le_of_ble_eq_true rfl, Nat.le_of_ble_eq_true rfl⟩) ⟨fun a U g mk q => by obtain ⟨q0, q1, qP, qK, qD⟩ := q; exact ⟨q0, q1, qP, va_K.moved (u := U) (U := U.calling g mk a) (Vm.Alike.refl U.vm) qK, qD⟩, va_recv hK hPc (ci := 5) (q0 := 0) rfl rfl, fun U hU hW => ⟨rfl, by rw [hU], by rw [hU]; exact hPc, va_K.moved hW.alike hK, hDc.weaken (fun _ _ _ _ => trivial)⟩⟩ rfl rfl hl.1 rfl (lv_room (Nat.le_of_ble_eq_true rfl)) dX11_tapeHoldsLetters_18 ⟨Nat.le_of_ble_eq_true rfl, Nat.le_of_ble_eq_true rfl⟩) hS (fun q _ h => hFc q h) hFc (fun r_3 u t H1 locs ht hvm hw hB hz1 hk1 hS => ?_)
        subst hw
        obtain ⟨hP1, hD1, hf3_0⟩ := hB
        rw [ht] at hP1
        obtain ⟨hP, hD⟩ := va_join (wr := [(oX, .inr (11, [.ref nT, .ref nL, .ref nM, .ref oC, .ref oP, .ref oH, .ref oK, .ref oG, .ref oR, .ref oQ, .ref oW, .int fa]))]) (w1 := [(nT, .inr (5, [.ref aT, .int lT])), (aT, .inl (cI, 900, .inl fT))]) hP hD [2, 1] [0] rfl rfl (by decide) (by decide) hk1 hFc hP1 hD1
        generalize H1 = H at hP hS ⊢
        have hP : va_P (dC, dI) vwCl [(oX, .inr (11, [.ref nT, .ref nL, .ref nM, .ref oC, .ref oP, .ref oH, .ref oK, .ref oG, .ref oR, .ref oQ, .ref oW, .int fa])), (nT, .inr (5, [.ref aT, .int lT])), (aT, .inl (cI, 900, .inl fT))] H := hP
        have hD : va_D A [(oX, .inr (11, [.ref nT, .ref nL, .ref nM, .ref oC, .ref oP, .ref oH, .ref oK, .ref oG, .ref oR, .ref oQ, .ref oW, .int fa])), (nT, .inr (5, [.ref aT, .int lT])), (aT, .inl (cI, 900, .inl fT))] := hD
        have hg3 : r_3 = fT i.toNatClampNeg := F_get_f hf3_0 (by omega) (by omega)
        have hPc := hP.sub (ws' := []) [] rfl
        have hDc := hD.sub (ws' := []) [] (by decide) rfl
        have hFc := va_free (wc := []) hD hS hA [] rfl
        refine va_calli (va_runS (As := [.int r_3]) (rest := []) ⟨hx, hb, hml, hown, hts⟩ (m_X11_isLetter l dC dI cI cS H.size r_3 ) (va_cwS 1 hts gX11_tapeHoldsLetters_X11_isLetter rfl rfl rfl (by decide +kernel) ⟨Nat.le_of_ble_eq_true rfl, Nat.le_of_ble_eq_true rfl⟩) ⟨fun a U g mk q => by obtain ⟨q0, q1, qP, qK, qD⟩ := q; exact ⟨q0, q1, qP, va_K.moved (u := U) (U := U.calling g mk a) (Vm.Alike.refl U.vm) qK, qD⟩, fun U hU hW => ⟨rfl, by rw [hU], by rw [hU]; exact hPc, va_K.moved hW.alike hK, hDc.weaken (fun _ _ _ _ => trivial)⟩⟩ rfl rfl hl.1 rfl (lv_room (Nat.le_of_ble_eq_true rfl)) dX11_tapeHoldsLetters_21 ⟨Nat.le_of_ble_eq_true rfl, Nat.le_of_ble_eq_true rfl⟩) hS (fun q _ h => hFc q h) hFc (fun r_4 u t H1 locs ht hvm hw hB hz1 hk1 hS => ?_)
        subst hw
        obtain ⟨hP1, hD1, hf4_0, hf4_1⟩ := hB
        rw [ht] at hP1
        obtain ⟨hP, hD⟩ := va_join (wr := [(oX, .inr (11, [.ref nT, .ref nL, .ref nM, .ref oC, .ref oP, .ref oH, .ref oK, .ref oG, .ref oR, .ref oQ, .ref oW, .int fa])), (nT, .inr (5, [.ref aT, .int lT])), (aT, .inl (cI, 900, .inl fT))]) (w1 := []) hP hD [] [0, 1, 2] rfl rfl (by decide) (by decide) hk1 hFc hP1 hD1
        generalize H1 = H at hP hS ⊢
        have hP : va_P (dC, dI) vwCl [(oX, .inr (11, [.ref nT, .ref nL, .ref nM, .ref oC, .ref oP, .ref oH, .ref oK, .ref oG, .ref oR, .ref oQ, .ref oW, .int fa])), (nT, .inr (5, [.ref aT, .int lT])), (aT, .inl (cI, 900, .inl fT))] H := hP
        have hD : va_D A [(oX, .inr (11, [.ref nT, .ref nL, .ref nM, .ref oC, .ref oP, .ref oH, .ref oK, .ref oG, .ref oR, .ref oQ, .ref oW, .int fa])), (nT, .inr (5, [.ref aT, .int lT])), (aT, .inl (cI, 900, .inl fT))] := hD
        refine lv_if_ne (tgt := 34) hx hb dX11_tapeHoldsLetters_24 (by decide) (fun c_5 => ?_) (fun c_5 => ?_)
        · have tc_5 : ¬ r_4.toInt = 0 := v_ne c_5
          obtain ⟨x_6, ex_6⟩ : ∃ y : Int32, y = i + 1 := ⟨_, rfl⟩
          have tx_6 : x_6.toInt = i.toInt + 1 := v_add ex_6 (by show -2147483648 ≤ i.toInt + 1; omega) (by show i.toInt + 1 < 2147483648; omega)
          refine lv_iinc (v := x_6) (lv' := [(1, .int x_6), (0, .ref oX)]) hx hb dX11_tapeHoldsLetters_34 hl (k := 0) rfl (by rw [ex_6]; rfl) (by decide) rfl (fun ls hl => ?_)
          refine lv_goto (tgt := 2) hx hb dX11_tapeHoldsLetters_37 (by decide) ?_
          exact ih_2 x_6 _ _ _ (by have hm9 := hm_2; show ((900 - x_6.toInt : Int)).toNat < k_2; omega) (by show 0 ≤ x_6.toInt ∧ x_6.toInt ≤ 900; omega) (allLt_s hal hg3 (by omega) (by omega) (by unfold isLt; omega)) hP hD hS (lv_sub hl [0, 1] rfl)
        · have tc_5 : r_4.toInt = 0 := v_eq c_5
          refine lv_aload_n hx hb dX11_tapeHoldsLetters_27 rfl (lv_at hl 1 rfl) ?_
          refine lv_iload_n hx hb dX11_tapeHoldsLetters_28 rfl (lv_at hl 0 rfl) ?_
          refine va_put (D := (dC, dI)) (ci := 11) (v := .int i) (ty := .int) (C := RX11) (T := TX11) (N := 12) hx hb hts in_X11 tyX11 tyX11_ok nmX11 hown hK hP hD hS 0 rfl rfl 11 (by decide) (hts (.fieldLink RX11 90 "TextMender" "fault" "I") (List.mem_of_getElem? (i := 2) rfl)) (fun _ h9 => h9) rfl (by decide +kernel) rfl rfl (Nat.le_of_ble_eq_true rfl) dX11_tapeHoldsLetters_29 (fun H locs hP hD hS => ?_)
          have hP : va_P (dC, dI) vwCl [(oX, .inr (11, [.ref nT, .ref nL, .ref nM, .ref oC, .ref oP, .ref oH, .ref oK, .ref oG, .ref oR, .ref oQ, .ref oW, .int i])), (nT, .inr (5, [.ref aT, .int lT])), (aT, .inl (cI, 900, .inl fT))] H := hP
          have hD : va_D A [(oX, .inr (11, [.ref nT, .ref nL, .ref nM, .ref oC, .ref oP, .ref oH, .ref oK, .ref oG, .ref oR, .ref oQ, .ref oW, .int i])), (nT, .inr (5, [.ref aT, .int lT])), (aT, .inl (cI, 900, .inl fT))] := hD
          refine lv_iconst (v := 0) hx hb dX11_tapeHoldsLetters_32 (by decide) ?_
          have hP9 := hP.sub (ws' := [(oX, .inr (11, [.ref nT, .ref nL, .ref nM, .ref oC, .ref oP, .ref oH, .ref oK, .ref oG, .ref oR, .ref oQ, .ref oW, .int i])), (nT, .inr (5, [.ref aT, .int lT])), (aT, .inl (cI, 900, .inl fT))]) [0, 1, 2] rfl
          have hD9 := hD.sub (ws' := [(oX, .inr (11, [.ref nT, .ref nL, .ref nM, .ref oC, .ref oP, .ref oH, .ref oK, .ref oG, .ref oR, .ref oQ, .ref oW, .int i])), (nT, .inr (5, [.ref aT, .int lT])), (aT, .inl (cI, 900, .inl fT))]) [0, 1, 2] (by decide) rfl
          rw [hQQ]
          exact W.zret (v := 0) (ty := .boolean) hx hb hr (rfl) (fun t ht hW => ⟨⟨0, 0, rfl, rfl, ⟨i, by rw [ht]; exact hP9, hD9, by decide, Or.inr ⟨rfl, allLt_no hg3 (by omega) (by omega) (by unfold isLt; omega)⟩⟩⟩, hS.F ht⟩) hS.2.2 dX11_tapeHoldsLetters_33
  exact LOOP_2 _ 0 _ _ _ (Nat.lt_succ_self _) (by decide) (allLt_0 (by decide)) hP hD hS (lv_sub hl [0, 1] rfl)
