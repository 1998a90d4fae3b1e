def g_cc (cd v : Int32) : Int32 := if cd = 0 then (if 128 ≤ v then 0 else 1) else if cd = 3 then (if 128 ≤ v then 0 else 1) else if cd = 1 then 1 else if cd = 2 then (if v < 192 then 1 else if v ≤ 193 then 0 else if 240 ≤ v then 0 else 1) else 0
def g_is (b v : Int32) : Bool := if b = 1 then true else if b = 0 then decide (v < 128) else if b = 2 then decide (v < 128) else if b = 3 then (!decide (128 ≤ v) && !decide (v = 38)) else false
theorem gis_0 (v : Int32) : g_is 0 v = decide (v < 128) := by rw [g_is, if_neg (by decide), if_pos rfl]
theorem gis_1 (v : Int32) : g_is 1 v = true := by rw [g_is, if_pos rfl]
theorem gis_2 (v : Int32) : g_is 2 v = decide (v < 128) := by rw [g_is, if_neg (by decide), if_neg (by decide), if_pos rfl]
theorem gis_3 (v : Int32) : g_is 3 v = (!decide (128 ≤ v) && !decide (v = 38)) := by rw [g_is, if_neg (by decide), if_neg (by decide), if_neg (by decide), if_pos rfl]
theorem gis_4 (v : Int32) : g_is 4 v = false := by rw [g_is, if_neg (by decide), if_neg (by decide), if_neg (by decide), if_neg (by decide)]
theorem gis_5 (v : Int32) : g_is 5 v = false := by rw [g_is, if_neg (by decide), if_neg (by decide), if_neg (by decide), if_neg (by decide)]
def g_ok (a b v : Int32) : Bool := decide (g_cc a v = 0) || g_is b v
theorem gok_no {a b v : Int32} (h1 : ¬ g_cc a v = 0) (h2 : g_is b v = false) : g_ok a b v = false := by rw [g_ok, decide_eq_false h1, h2]; rfl
theorem gok_skip {a b v : Int32} (h1 : g_cc a v = 0) : g_ok a b v = true := by rw [g_ok, decide_eq_true h1]; rfl
theorem gok_yes {a b v : Int32} (h2 : g_is b v = true) : g_ok a b v = true := by rw [g_ok, h2]; exact Bool.or_true _
def g_all (a b : Int32) : Int32 := if a = b then 1 else if (List.range 256).all (fun j => g_ok a b (nI j)) = true then 1 else 0
def g_safe (a b : Int32) : Int32 := if g_code a = 0 then (-1) else if g_code b = 0 then (-1) else g_all a b
theorem p_code {c : Int32} (h : ¬ g_code c = 0) : is_code c := by
  by_cases h1 : c < 0
  · exact absurd (by rw [g_code, if_pos h1]) h
  · by_cases h2 : 6 ≤ c
    · exact absurd (by rw [g_code, if_neg h1, if_pos h2]) h
    · refine p_cases h1 ?_
      have a2 : ¬ (6 : Int) ≤ c.toInt := fun z => h2 (Int32.le_iff_toInt_le.mpr z)
      exact Int32.le_iff_toInt_le.mpr (by show c.toInt ≤ 5; omega)

set_option maxHeartbeats 4000000 in
set_option maxRecDepth 100000 in
theorem m_X12_canCome_0 (l : Launch) (dC : Nat → ClassId) (dI : Nat → Nat → Nat) (cI cS : ClassId) (sz : Nat) (oM : Nat) (mT : Nat) (mS : Nat) (mX : Nat) (mL : Nat) (mB : Nat) (mD : Nat) (m1 : Nat) (m2 : Nat) (mR : Nat) (x1 : Nat) (x2 : Nat) (x3 : Nat) (mH : Nat) (mY : Nat) (mE : Nat) (mW : Nat) (mO : Nat) (y1 : Nat) (y2 : Nat) (y3 : Nat) (y4 : Nat) (mZ : Nat) (v : Int32) (i : Nat) (hv : v = nI i) (hi : i < 256) : Met l yX12_canCome wsX12_canCome ({ frames := 0, cells := 0, slots := 0, locals := 0 } : Room) (va_Pc [.ref oM, .int 0, .int v] (fun U => U.heap.size = sz ∧ va_P (dC, dI) vwCl [(oM, .inr (12, [.ref mT, .int 0, .ref mS, .ref mX, .int 0, .int 0, .ref mL, .ref mB, .ref mD, .ref m1, .ref m2, .int 0, .ref mR, .int 0, .ref x1, .ref x2, .ref x3, .int 0, .ref mH, .int 0, .int 0, .int 0, .int 0, .int (-1), .int (-1), .int 0, .ref mY, .int 0, .ref mE, .int 0, .int 0, .ref mW, .int 0, .ref mO, .int 0, .ref y1, .ref y2, .ref y3, .ref y4, .ref mZ])), (mL, .inl (cI, 512, .inl (fun _ => (-1))))] U.heap ∧ va_K (dC, dI) vwCl [(cI, .int), (cS, .short)] U ∧ va_D (fun _ => True) [(oM, .inr (12, [.ref mT, .int 0, .ref mS, .ref mX, .int 0, .int 0, .ref mL, .ref mB, .ref mD, .ref m1, .ref m2, .int 0, .ref mR, .int 0, .ref x1, .ref x2, .ref x3, .int 0, .ref mH, .int 0, .int 0, .int 0, .int 0, .int (-1), .int (-1), .int 0, .ref mY, .int 0, .ref mE, .int 0, .int 0, .ref mW, .int 0, .ref mO, .int 0, .ref y1, .ref y2, .ref y3, .ref y4, .ref mZ])), (mL, .inl (cI, 512, .inl (fun _ => (-1))))])) (va_Qi (fun (r : Int32) (_ : Unit) => r = g_cc 0 v) (fun _ t => va_P (dC, dI) vwCl [(oM, .inr (12, [.ref mT, .int 0, .ref mS, .ref mX, .int 0, .int 0, .ref mL, .ref mB, .ref mD, .ref m1, .ref m2, .int 0, .ref mR, .int 0, .ref x1, .ref x2, .ref x3, .int 0, .ref mH, .int 0, .int 0, .int 0, .int 0, .int (-1), .int (-1), .int 0, .ref mY, .int 0, .ref mE, .int 0, .int 0, .ref mW, .int 0, .ref mO, .int 0, .ref y1, .ref y2, .ref y3, .ref y4, .ref mZ])), (mL, .inl (cI, 512, .inl (fun _ => (-1))))] t.heap ∧ va_D (va_A [(oM, .inr (12, [.ref mT, .int 0, .ref mS, .ref mX, .int 0, .int 0, .ref mL, .ref mB, .ref mD, .ref m1, .ref m2, .int 0, .ref mR, .int 0, .ref x1, .ref x2, .ref x3, .int 0, .ref mH, .int 0, .int 0, .int 0, .int 0, .int (-1), .int (-1), .int 0, .ref mY, .int 0, .ref mE, .int 0, .int 0, .ref mW, .int 0, .ref mO, .int 0, .ref y1, .ref y2, .ref y3, .ref y4, .ref mZ])), (mL, .inl (cI, 512, .inl (fun _ => (-1))))] sz) [(oM, .inr (12, [.ref mT, .int 0, .ref mS, .ref mX, .int 0, .int 0, .ref mL, .ref mB, .ref mD, .ref m1, .ref m2, .int 0, .ref mR, .int 0, .ref x1, .ref x2, .ref x3, .int 0, .ref mH, .int 0, .int 0, .int 0, .int 0, .int (-1), .int (-1), .int 0, .ref mY, .int 0, .ref mE, .int 0, .int 0, .ref mW, .int 0, .ref mO, .int 0, .ref y1, .ref y2, .ref y3, .ref y4, .ref mZ])), (mL, .inl (cI, 512, .inl (fun _ => (-1))))]) (va_A [(oM, .inr (12, [.ref mT, .int 0, .ref mS, .ref mX, .int 0, .int 0, .ref mL, .ref mB, .ref mD, .ref m1, .ref m2, .int 0, .ref mR, .int 0, .ref x1, .ref x2, .ref x3, .int 0, .ref mH, .int 0, .int 0, .int 0, .int 0, .int (-1), .int (-1), .int 0, .ref mY, .int 0, .ref mE, .int 0, .int 0, .ref mW, .int 0, .ref mO, .int 0, .ref y1, .ref y2, .ref y3, .ref y4, .ref mZ])), (mL, .inl (cI, 512, .inl (fun _ => (-1))))] sz)) 0 0 (va_A [(oM, .inr (12, [.ref mT, .int 0, .ref mS, .ref mX, .int 0, .int 0, .ref mL, .ref mB, .ref mD, .ref m1, .ref m2, .int 0, .ref mR, .int 0, .ref x1, .ref x2, .ref x3, .int 0, .ref mH, .int 0, .int 0, .int 0, .int 0, .int (-1), .int (-1), .int 0, .ref mY, .int 0, .ref mE, .int 0, .int 0, .ref mW, .int 0, .ref mO, .int 0, .ref y1, .ref y2, .ref y3, .ref y4, .ref mZ])), (mL, .inl (cI, 512, .inl (fun _ => (-1))))] sz) := by
  refine Met.ofW (cc := cX12_canCome) (maxL := 3) (ret := (some .boolean)) (by decide) rfl ?_
  intro p e s m args below meth c s₁ B hml hv
  obtain ⟨rfl, hsz, hP, hK, hD0⟩ := hv
  have hx := B.exec
  have hb := B.bytes
  have hr := B.returns
  have hts := atoms_spec (ws := wsX12_canCome) B.pre
  have hown : s.vm.findClass RX12 = some m.cls := findClass_of_methodNamed B.named
  have hlocks := B.notSynchronized
  subst hsz
  have hD := hD0.self (sz := s.heap.size)
  generalize hAe : va_A [(oM, .inr (12, [.ref mT, .int 0, .ref mS, .ref mX, .int 0, .int 0, .ref mL, .ref mB, .ref mD, .ref m1, .ref m2, .int 0, .ref mR, .int 0, .ref x1, .ref x2, .ref x3, .int 0, .ref mH, .int 0, .int 0, .int 0, .int 0, .int (-1), .int (-1), .int 0, .ref mY, .int 0, .ref mE, .int 0, .int 0, .ref mW, .int 0, .ref mO, .int 0, .ref y1, .ref y2, .ref y3, .ref y4, .ref mZ])), (mL, .inl (cI, 512, .inl (fun _ => (-1))))] s.heap.size = A at hD ⊢
  have hA : ∀ q : Nat, s.heap.size ≤ q → A q := fun q h => by rw [← hAe]; exact Or.inr h
  have hS : va_S A s.heap s.heap [] := va_S.rf
  have hP : va_P (dC, dI) vwCl [(oM, .inr (12, [.ref mT, .int 0, .ref mS, .ref mX, .int 0, .int 0, .ref mL, .ref mB, .ref mD, .ref m1, .ref m2, .int 0, .ref mR, .int 0, .ref x1, .ref x2, .ref x3, .int 0, .ref mH, .int 0, .int 0, .int 0, .int 0, .int (-1), .int (-1), .int 0, .ref mY, .int 0, .ref mE, .int 0, .int 0, .ref mW, .int 0, .ref mO, .int 0, .ref y1, .ref y2, .ref y3, .ref y4, .ref mZ])), (mL, .inl (cI, 512, .inl (fun _ => (-1))))] s.heap := hP
  have hl := lv_entry ([.ref oM, .int 0, .int v]) (n := 3) (Nat.le_of_ble_eq_true rfl)
  rw [lg_entry_eq]
  generalize (lg_sl ([.ref oM, .int 0, .int v]) ++ List.replicate (3 - (lg_sl ([.ref oM, .int 0, .int v])).length) Slot.unset).toArray = ls at hl ⊢
  have hl : lv_has ls 3 [(0, .ref oM), (1, .int 0), (2, .int v)] := hl
  refine lv_iload_n hx hb dX12_canCome_0 rfl (lv_at hl 1 rfl) ?_
  refine lv_if_eq (tgt := 9) hx hb dX12_canCome_1 (by decide) (fun c_1 => ?_) (fun c_1 => absurd (by decide) c_1)
  refine lv_iload_n hx hb dX12_canCome_9 rfl (lv_at hl 2 rfl) ?_
  refine lv_sipush (v := 128) hx hb dX12_canCome_10 (by decide) ?_
  refine lv_icmp_ge (tgt := 20) hx hb dX12_canCome_13 (by decide) (fun c_2 => ?_) (fun c_2 => ?_)
  · refine lv_iconst (v := 0) hx hb dX12_canCome_20 (by decide) ?_
    have hP9 := hP.sub (ws' := [(oM, .inr (12, [.ref mT, .int 0, .ref mS, .ref mX, .int 0, .int 0, .ref mL, .ref mB, .ref mD, .ref m1, .ref m2, .int 0, .ref mR, .int 0, .ref x1, .ref x2, .ref x3, .int 0, .ref mH, .int 0, .int 0, .int 0, .int 0, .int (-1), .int (-1), .int 0, .ref mY, .int 0, .ref mE, .int 0, .int 0, .ref mW, .int 0, .ref mO, .int 0, .ref y1, .ref y2, .ref y3, .ref y4, .ref mZ])), (mL, .inl (cI, 512, .inl (fun _ => (-1))))]) [0, 1] rfl
    have hD9 := hD.sub (ws' := [(oM, .inr (12, [.ref mT, .int 0, .ref mS, .ref mX, .int 0, .int 0, .ref mL, .ref mB, .ref mD, .ref m1, .ref m2, .int 0, .ref mR, .int 0, .ref x1, .ref x2, .ref x3, .int 0, .ref mH, .int 0, .int 0, .int 0, .int 0, .int (-1), .int (-1), .int 0, .ref mY, .int 0, .ref mE, .int 0, .int 0, .ref mW, .int 0, .ref mO, .int 0, .ref y1, .ref y2, .ref y3, .ref y4, .ref mZ])), (mL, .inl (cI, 512, .inl (fun _ => (-1))))]) [0, 1] (by decide) rfl
    exact W.zret (v := 0) (ty := .boolean) hx hb hr (rfl) (fun t ht hW => ⟨⟨0, (), rfl, by first | rfl | decide | simp [g_cc, c_2], by rw [ht]; exact hP9, hD9⟩, hS.F ht⟩) (hS.2.2) dX12_canCome_21
  · refine lv_iconst (v := 1) hx hb dX12_canCome_16 (by decide) ?_
    refine lv_goto (tgt := 21) hx hb dX12_canCome_17 (by decide) ?_
    have hP9 := hP.sub (ws' := [(oM, .inr (12, [.ref mT, .int 0, .ref mS, .ref mX, .int 0, .int 0, .ref mL, .ref mB, .ref mD, .ref m1, .ref m2, .int 0, .ref mR, .int 0, .ref x1, .ref x2, .ref x3, .int 0, .ref mH, .int 0, .int 0, .int 0, .int 0, .int (-1), .int (-1), .int 0, .ref mY, .int 0, .ref mE, .int 0, .int 0, .ref mW, .int 0, .ref mO, .int 0, .ref y1, .ref y2, .ref y3, .ref y4, .ref mZ])), (mL, .inl (cI, 512, .inl (fun _ => (-1))))]) [0, 1] rfl
    have hD9 := hD.sub (ws' := [(oM, .inr (12, [.ref mT, .int 0, .ref mS, .ref mX, .int 0, .int 0, .ref mL, .ref mB, .ref mD, .ref m1, .ref m2, .int 0, .ref mR, .int 0, .ref x1, .ref x2, .ref x3, .int 0, .ref mH, .int 0, .int 0, .int 0, .int 0, .int (-1), .int (-1), .int 0, .ref mY, .int 0, .ref mE, .int 0, .int 0, .ref mW, .int 0, .ref mO, .int 0, .ref y1, .ref y2, .ref y3, .ref y4, .ref mZ])), (mL, .inl (cI, 512, .inl (fun _ => (-1))))]) [0, 1] (by decide) rfl
    exact W.zret (v := 1) (ty := .boolean) hx hb hr (rfl) (fun t ht hW => ⟨⟨1, (), rfl, by first | rfl | decide | simp [g_cc, c_2], by rw [ht]; exact hP9, hD9⟩, hS.F ht⟩) (hS.2.2) dX12_canCome_21

set_option maxHeartbeats 4000000 in
set_option maxRecDepth 100000 in
theorem m_X12_canCome_1 (l : Launch) (dC : Nat → ClassId) (dI : Nat → Nat → Nat) (cI cS : ClassId) (sz : Nat) (oM : Nat) (mT : Nat) (mS : Nat) (mX : Nat) (mL : Nat) (mB : Nat) (mD : Nat) (m1 : Nat) (m2 : Nat) (mR : Nat) (x1 : Nat) (x2 : Nat) (x3 : Nat) (mH : Nat) (mY : Nat) (mE : Nat) (mW : Nat) (mO : Nat) (y1 : Nat) (y2 : Nat) (y3 : Nat) (y4 : Nat) (mZ : Nat) (v : Int32) (i : Nat) (hv : v = nI i) (hi : i < 256) : Met l yX12_canCome wsX12_canCome ({ frames := 0, cells := 0, slots := 0, locals := 0 } : Room) (va_Pc [.ref oM, .int 1, .int v] (fun U => U.heap.size = sz ∧ va_P (dC, dI) vwCl [(oM, .inr (12, [.ref mT, .int 0, .ref mS, .ref mX, .int 0, .int 0, .ref mL, .ref mB, .ref mD, .ref m1, .ref m2, .int 0, .ref mR, .int 0, .ref x1, .ref x2, .ref x3, .int 0, .ref mH, .int 0, .int 0, .int 0, .int 0, .int (-1), .int (-1), .int 0, .ref mY, .int 0, .ref mE, .int 0, .int 0, .ref mW, .int 0, .ref mO, .int 0, .ref y1, .ref y2, .ref y3, .ref y4, .ref mZ])), (mL, .inl (cI, 512, .inl (fun _ => (-1))))] U.heap ∧ va_K (dC, dI) vwCl [(cI, .int), (cS, .short)] U ∧ va_D (fun _ => True) [(oM, .inr (12, [.ref mT, .int 0, .ref mS, .ref mX, .int 0, .int 0, .ref mL, .ref mB, .ref mD, .ref m1, .ref m2, .int 0, .ref mR, .int 0, .ref x1, .ref x2, .ref x3, .int 0, .ref mH, .int 0, .int 0, .int 0, .int 0, .int (-1), .int (-1), .int 0, .ref mY, .int 0, .ref mE, .int 0, .int 0, .ref mW, .int 0, .ref mO, .int 0, .ref y1, .ref y2, .ref y3, .ref y4, .ref mZ])), (mL, .inl (cI, 512, .inl (fun _ => (-1))))])) (va_Qi (fun (r : Int32) (_ : Unit) => r = g_cc 1 v) (fun _ t => va_P (dC, dI) vwCl [(oM, .inr (12, [.ref mT, .int 0, .ref mS, .ref mX, .int 0, .int 0, .ref mL, .ref mB, .ref mD, .ref m1, .ref m2, .int 0, .ref mR, .int 0, .ref x1, .ref x2, .ref x3, .int 0, .ref mH, .int 0, .int 0, .int 0, .int 0, .int (-1), .int (-1), .int 0, .ref mY, .int 0, .ref mE, .int 0, .int 0, .ref mW, .int 0, .ref mO, .int 0, .ref y1, .ref y2, .ref y3, .ref y4, .ref mZ])), (mL, .inl (cI, 512, .inl (fun _ => (-1))))] t.heap ∧ va_D (va_A [(oM, .inr (12, [.ref mT, .int 0, .ref mS, .ref mX, .int 0, .int 0, .ref mL, .ref mB, .ref mD, .ref m1, .ref m2, .int 0, .ref mR, .int 0, .ref x1, .ref x2, .ref x3, .int 0, .ref mH, .int 0, .int 0, .int 0, .int 0, .int (-1), .int (-1), .int 0, .ref mY, .int 0, .ref mE, .int 0, .int 0, .ref mW, .int 0, .ref mO, .int 0, .ref y1, .ref y2, .ref y3, .ref y4, .ref mZ])), (mL, .inl (cI, 512, .inl (fun _ => (-1))))] sz) [(oM, .inr (12, [.ref mT, .int 0, .ref mS, .ref mX, .int 0, .int 0, .ref mL, .ref mB, .ref mD, .ref m1, .ref m2, .int 0, .ref mR, .int 0, .ref x1, .ref x2, .ref x3, .int 0, .ref mH, .int 0, .int 0, .int 0, .int 0, .int (-1), .int (-1), .int 0, .ref mY, .int 0, .ref mE, .int 0, .int 0, .ref mW, .int 0, .ref mO, .int 0, .ref y1, .ref y2, .ref y3, .ref y4, .ref mZ])), (mL, .inl (cI, 512, .inl (fun _ => (-1))))]) (va_A [(oM, .inr (12, [.ref mT, .int 0, .ref mS, .ref mX, .int 0, .int 0, .ref mL, .ref mB, .ref mD, .ref m1, .ref m2, .int 0, .ref mR, .int 0, .ref x1, .ref x2, .ref x3, .int 0, .ref mH, .int 0, .int 0, .int 0, .int 0, .int (-1), .int (-1), .int 0, .ref mY, .int 0, .ref mE, .int 0, .int 0, .ref mW, .int 0, .ref mO, .int 0, .ref y1, .ref y2, .ref y3, .ref y4, .ref mZ])), (mL, .inl (cI, 512, .inl (fun _ => (-1))))] sz)) 0 0 (va_A [(oM, .inr (12, [.ref mT, .int 0, .ref mS, .ref mX, .int 0, .int 0, .ref mL, .ref mB, .ref mD, .ref m1, .ref m2, .int 0, .ref mR, .int 0, .ref x1, .ref x2, .ref x3, .int 0, .ref mH, .int 0, .int 0, .int 0, .int 0, .int (-1), .int (-1), .int 0, .ref mY, .int 0, .ref mE, .int 0, .int 0, .ref mW, .int 0, .ref mO, .int 0, .ref y1, .ref y2, .ref y3, .ref y4, .ref mZ])), (mL, .inl (cI, 512, .inl (fun _ => (-1))))] sz) := by
  refine Met.ofW (cc := cX12_canCome) (maxL := 3) (ret := (some .boolean)) (by decide) rfl ?_
  intro p e s m args below meth c s₁ B hml hv
  obtain ⟨rfl, hsz, hP, hK, hD0⟩ := hv
  have hx := B.exec
  have hb := B.bytes
  have hr := B.returns
  have hts := atoms_spec (ws := wsX12_canCome) B.pre
  have hown : s.vm.findClass RX12 = some m.cls := findClass_of_methodNamed B.named
  have hlocks := B.notSynchronized
  subst hsz
  have hD := hD0.self (sz := s.heap.size)
  generalize hAe : va_A [(oM, .inr (12, [.ref mT, .int 0, .ref mS, .ref mX, .int 0, .int 0, .ref mL, .ref mB, .ref mD, .ref m1, .ref m2, .int 0, .ref mR, .int 0, .ref x1, .ref x2, .ref x3, .int 0, .ref mH, .int 0, .int 0, .int 0, .int 0, .int (-1), .int (-1), .int 0, .ref mY, .int 0, .ref mE, .int 0, .int 0, .ref mW, .int 0, .ref mO, .int 0, .ref y1, .ref y2, .ref y3, .ref y4, .ref mZ])), (mL, .inl (cI, 512, .inl (fun _ => (-1))))] s.heap.size = A at hD ⊢
  have hA : ∀ q : Nat, s.heap.size ≤ q → A q := fun q h => by rw [← hAe]; exact Or.inr h
  have hS : va_S A s.heap s.heap [] := va_S.rf
  have hP : va_P (dC, dI) vwCl [(oM, .inr (12, [.ref mT, .int 0, .ref mS, .ref mX, .int 0, .int 0, .ref mL, .ref mB, .ref mD, .ref m1, .ref m2, .int 0, .ref mR, .int 0, .ref x1, .ref x2, .ref x3, .int 0, .ref mH, .int 0, .int 0, .int 0, .int 0, .int (-1), .int (-1), .int 0, .ref mY, .int 0, .ref mE, .int 0, .int 0, .ref mW, .int 0, .ref mO, .int 0, .ref y1, .ref y2, .ref y3, .ref y4, .ref mZ])), (mL, .inl (cI, 512, .inl (fun _ => (-1))))] s.heap := hP
  have hl := lv_entry ([.ref oM, .int 1, .int v]) (n := 3) (Nat.le_of_ble_eq_true rfl)
  rw [lg_entry_eq]
  generalize (lg_sl ([.ref oM, .int 1, .int v]) ++ List.replicate (3 - (lg_sl ([.ref oM, .int 1, .int v])).length) Slot.unset).toArray = ls at hl ⊢
  have hl : lv_has ls 3 [(0, .ref oM), (1, .int 1), (2, .int v)] := hl
  refine lv_iload_n hx hb dX12_canCome_0 rfl (lv_at hl 1 rfl) ?_
  refine lv_if_eq (tgt := 9) hx hb dX12_canCome_1 (by decide) (fun c_1 => absurd c_1 (by decide)) (fun c_1 => ?_)
  refine lv_iload_n hx hb dX12_canCome_4 rfl (lv_at hl 1 rfl) ?_
  refine lv_iconst (v := 3) hx hb dX12_canCome_5 (by decide) ?_
  refine lv_icmp_ne (tgt := 22) hx hb dX12_canCome_6 (by decide) (fun c_2 => ?_) (fun c_2 => absurd c_2 (by decide))
  refine lv_iload_n hx hb dX12_canCome_22 rfl (lv_at hl 1 rfl) ?_
  refine lv_iconst (v := 1) hx hb dX12_canCome_23 (by decide) ?_
  refine lv_icmp_ne (tgt := 29) hx hb dX12_canCome_24 (by decide) (fun c_3 => absurd (by decide) c_3) (fun c_3 => ?_)
  refine lv_iconst (v := 1) hx hb dX12_canCome_27 (by decide) ?_
  have hP9 := hP.sub (ws' := [(oM, .inr (12, [.ref mT, .int 0, .ref mS, .ref mX, .int 0, .int 0, .ref mL, .ref mB, .ref mD, .ref m1, .ref m2, .int 0, .ref mR, .int 0, .ref x1, .ref x2, .ref x3, .int 0, .ref mH, .int 0, .int 0, .int 0, .int 0, .int (-1), .int (-1), .int 0, .ref mY, .int 0, .ref mE, .int 0, .int 0, .ref mW, .int 0, .ref mO, .int 0, .ref y1, .ref y2, .ref y3, .ref y4, .ref mZ])), (mL, .inl (cI, 512, .inl (fun _ => (-1))))]) [0, 1] rfl
  have hD9 := hD.sub (ws' := [(oM, .inr (12, [.ref mT, .int 0, .ref mS, .ref mX, .int 0, .int 0, .ref mL, .ref mB, .ref mD, .ref m1, .ref m2, .int 0, .ref mR, .int 0, .ref x1, .ref x2, .ref x3, .int 0, .ref mH, .int 0, .int 0, .int 0, .int 0, .int (-1), .int (-1), .int 0, .ref mY, .int 0, .ref mE, .int 0, .int 0, .ref mW, .int 0, .ref mO, .int 0, .ref y1, .ref y2, .ref y3, .ref y4, .ref mZ])), (mL, .inl (cI, 512, .inl (fun _ => (-1))))]) [0, 1] (by decide) rfl
  exact W.zret (v := 1) (ty := .boolean) hx hb hr (rfl) (fun t ht hW => ⟨⟨1, (), rfl, by first | rfl | decide | simp [g_cc, ], by rw [ht]; exact hP9, hD9⟩, hS.F ht⟩) (hS.2.2) dX12_canCome_28

set_option maxHeartbeats 4000000 in
set_option maxRecDepth 100000 in
theorem m_X12_canCome_2 (l : Launch) (dC : Nat → ClassId) (dI : Nat → Nat → Nat) (cI cS : ClassId) (sz : Nat) (oM : Nat) (mT : Nat) (mS : Nat) (mX : Nat) (mL : Nat) (mB : Nat) (mD : Nat) (m1 : Nat) (m2 : Nat) (mR : Nat) (x1 : Nat) (x2 : Nat) (x3 : Nat) (mH : Nat) (mY : Nat) (mE : Nat) (mW : Nat) (mO : Nat) (y1 : Nat) (y2 : Nat) (y3 : Nat) (y4 : Nat) (mZ : Nat) (v : Int32) (i : Nat) (hv : v = nI i) (hi : i < 256) : Met l yX12_canCome wsX12_canCome ({ frames := 0, cells := 0, slots := 0, locals := 0 } : Room) (va_Pc [.ref oM, .int 2, .int v] (fun U => U.heap.size = sz ∧ va_P (dC, dI) vwCl [(oM, .inr (12, [.ref mT, .int 0, .ref mS, .ref mX, .int 0, .int 0, .ref mL, .ref mB, .ref mD, .ref m1, .ref m2, .int 0, .ref mR, .int 0, .ref x1, .ref x2, .ref x3, .int 0, .ref mH, .int 0, .int 0, .int 0, .int 0, .int (-1), .int (-1), .int 0, .ref mY, .int 0, .ref mE, .int 0, .int 0, .ref mW, .int 0, .ref mO, .int 0, .ref y1, .ref y2, .ref y3, .ref y4, .ref mZ])), (mL, .inl (cI, 512, .inl (fun _ => (-1))))] U.heap ∧ va_K (dC, dI) vwCl [(cI, .int), (cS, .short)] U ∧ va_D (fun _ => True) [(oM, .inr (12, [.ref mT, .int 0, .ref mS, .ref mX, .int 0, .int 0, .ref mL, .ref mB, .ref mD, .ref m1, .ref m2, .int 0, .ref mR, .int 0, .ref x1, .ref x2, .ref x3, .int 0, .ref mH, .int 0, .int 0, .int 0, .int 0, .int (-1), .int (-1), .int 0, .ref mY, .int 0, .ref mE, .int 0, .int 0, .ref mW, .int 0, .ref mO, .int 0, .ref y1, .ref y2, .ref y3, .ref y4, .ref mZ])), (mL, .inl (cI, 512, .inl (fun _ => (-1))))])) (va_Qi (fun (r : Int32) (_ : Unit) => r = g_cc 2 v) (fun _ t => va_P (dC, dI) vwCl [(oM, .inr (12, [.ref mT, .int 0, .ref mS, .ref mX, .int 0, .int 0, .ref mL, .ref mB, .ref mD, .ref m1, .ref m2, .int 0, .ref mR, .int 0, .ref x1, .ref x2, .ref x3, .int 0, .ref mH, .int 0, .int 0, .int 0, .int 0, .int (-1), .int (-1), .int 0, .ref mY, .int 0, .ref mE, .int 0, .int 0, .ref mW, .int 0, .ref mO, .int 0, .ref y1, .ref y2, .ref y3, .ref y4, .ref mZ])), (mL, .inl (cI, 512, .inl (fun _ => (-1))))] t.heap ∧ va_D (va_A [(oM, .inr (12, [.ref mT, .int 0, .ref mS, .ref mX, .int 0, .int 0, .ref mL, .ref mB, .ref mD, .ref m1, .ref m2, .int 0, .ref mR, .int 0, .ref x1, .ref x2, .ref x3, .int 0, .ref mH, .int 0, .int 0, .int 0, .int 0, .int (-1), .int (-1), .int 0, .ref mY, .int 0, .ref mE, .int 0, .int 0, .ref mW, .int 0, .ref mO, .int 0, .ref y1, .ref y2, .ref y3, .ref y4, .ref mZ])), (mL, .inl (cI, 512, .inl (fun _ => (-1))))] sz) [(oM, .inr (12, [.ref mT, .int 0, .ref mS, .ref mX, .int 0, .int 0, .ref mL, .ref mB, .ref mD, .ref m1, .ref m2, .int 0, .ref mR, .int 0, .ref x1, .ref x2, .ref x3, .int 0, .ref mH, .int 0, .int 0, .int 0, .int 0, .int (-1), .int (-1), .int 0, .ref mY, .int 0, .ref mE, .int 0, .int 0, .ref mW, .int 0, .ref mO, .int 0, .ref y1, .ref y2, .ref y3, .ref y4, .ref mZ])), (mL, .inl (cI, 512, .inl (fun _ => (-1))))]) (va_A [(oM, .inr (12, [.ref mT, .int 0, .ref mS, .ref mX, .int 0, .int 0, .ref mL, .ref mB, .ref mD, .ref m1, .ref m2, .int 0, .ref mR, .int 0, .ref x1, .ref x2, .ref x3, .int 0, .ref mH, .int 0, .int 0, .int 0, .int 0, .int (-1), .int (-1), .int 0, .ref mY, .int 0, .ref mE, .int 0, .int 0, .ref mW, .int 0, .ref mO, .int 0, .ref y1, .ref y2, .ref y3, .ref y4, .ref mZ])), (mL, .inl (cI, 512, .inl (fun _ => (-1))))] sz)) 0 0 (va_A [(oM, .inr (12, [.ref mT, .int 0, .ref mS, .ref mX, .int 0, .int 0, .ref mL, .ref mB, .ref mD, .ref m1, .ref m2, .int 0, .ref mR, .int 0, .ref x1, .ref x2, .ref x3, .int 0, .ref mH, .int 0, .int 0, .int 0, .int 0, .int (-1), .int (-1), .int 0, .ref mY, .int 0, .ref mE, .int 0, .int 0, .ref mW, .int 0, .ref mO, .int 0, .ref y1, .ref y2, .ref y3, .ref y4, .ref mZ])), (mL, .inl (cI, 512, .inl (fun _ => (-1))))] sz) := by
  refine Met.ofW (cc := cX12_canCome) (maxL := 3) (ret := (some .boolean)) (by decide) rfl ?_
  intro p e s m args below meth c s₁ B hml hv
  obtain ⟨rfl, hsz, hP, hK, hD0⟩ := hv
  have hx := B.exec
  have hb := B.bytes
  have hr := B.returns
  have hts := atoms_spec (ws := wsX12_canCome) B.pre
  have hown : s.vm.findClass RX12 = some m.cls := findClass_of_methodNamed B.named
  have hlocks := B.notSynchronized
  subst hsz
  have hD := hD0.self (sz := s.heap.size)
  generalize hAe : va_A [(oM, .inr (12, [.ref mT, .int 0, .ref mS, .ref mX, .int 0, .int 0, .ref mL, .ref mB, .ref mD, .ref m1, .ref m2, .int 0, .ref mR, .int 0, .ref x1, .ref x2, .ref x3, .int 0, .ref mH, .int 0, .int 0, .int 0, .int 0, .int (-1), .int (-1), .int 0, .ref mY, .int 0, .ref mE, .int 0, .int 0, .ref mW, .int 0, .ref mO, .int 0, .ref y1, .ref y2, .ref y3, .ref y4, .ref mZ])), (mL, .inl (cI, 512, .inl (fun _ => (-1))))] s.heap.size = A at hD ⊢
  have hA : ∀ q : Nat, s.heap.size ≤ q → A q := fun q h => by rw [← hAe]; exact Or.inr h
  have hS : va_S A s.heap s.heap [] := va_S.rf
  have hP : va_P (dC, dI) vwCl [(oM, .inr (12, [.ref mT, .int 0, .ref mS, .ref mX, .int 0, .int 0, .ref mL, .ref mB, .ref mD, .ref m1, .ref m2, .int 0, .ref mR, .int 0, .ref x1, .ref x2, .ref x3, .int 0, .ref mH, .int 0, .int 0, .int 0, .int 0, .int (-1), .int (-1), .int 0, .ref mY, .int 0, .ref mE, .int 0, .int 0, .ref mW, .int 0, .ref mO, .int 0, .ref y1, .ref y2, .ref y3, .ref y4, .ref mZ])), (mL, .inl (cI, 512, .inl (fun _ => (-1))))] s.heap := hP
  have hl := lv_entry ([.ref oM, .int 2, .int v]) (n := 3) (Nat.le_of_ble_eq_true rfl)
  rw [lg_entry_eq]
  generalize (lg_sl ([.ref oM, .int 2, .int v]) ++ List.replicate (3 - (lg_sl ([.ref oM, .int 2, .int v])).length) Slot.unset).toArray = ls at hl ⊢
  have hl : lv_has ls 3 [(0, .ref oM), (1, .int 2), (2, .int v)] := hl
  refine lv_iload_n hx hb dX12_canCome_0 rfl (lv_at hl 1 rfl) ?_
  refine lv_if_eq (tgt := 9) hx hb dX12_canCome_1 (by decide) (fun c_1 => absurd c_1 (by decide)) (fun c_1 => ?_)
  refine lv_iload_n hx hb dX12_canCome_4 rfl (lv_at hl 1 rfl) ?_
  refine lv_iconst (v := 3) hx hb dX12_canCome_5 (by decide) ?_
  refine lv_icmp_ne (tgt := 22) hx hb dX12_canCome_6 (by decide) (fun c_2 => ?_) (fun c_2 => absurd c_2 (by decide))
  refine lv_iload_n hx hb dX12_canCome_22 rfl (lv_at hl 1 rfl) ?_
  refine lv_iconst (v := 1) hx hb dX12_canCome_23 (by decide) ?_
  refine lv_icmp_ne (tgt := 29) hx hb dX12_canCome_24 (by decide) (fun c_3 => ?_) (fun c_3 => absurd c_3 (by decide))
  refine lv_iload_n hx hb dX12_canCome_29 rfl (lv_at hl 1 rfl) ?_
  refine lv_iconst (v := 2) hx hb dX12_canCome_30 (by decide) ?_
  refine lv_icmp_ne (tgt := 61) hx hb dX12_canCome_31 (by decide) (fun c_4 => absurd (by decide) c_4) (fun c_4 => ?_)
  refine lv_iload_n hx hb dX12_canCome_34 rfl (lv_at hl 2 rfl) ?_
  refine lv_sipush (v := 192) hx hb dX12_canCome_35 (by decide) ?_
  refine lv_icmp_lt (tgt := 55) hx hb dX12_canCome_38 (by decide) (fun c_5 => ?_) (fun c_5 => ?_)
  · refine lv_iconst (v := 1) hx hb dX12_canCome_55 (by decide) ?_
    refine lv_goto (tgt := 60) hx hb dX12_canCome_56 (by decide) ?_
    have hP9 := hP.sub (ws' := [(oM, .inr (12, [.ref mT, .int 0, .ref mS, .ref mX, .int 0, .int 0, .ref mL, .ref mB, .ref mD, .ref m1, .ref m2, .int 0, .ref mR, .int 0, .ref x1, .ref x2, .ref x3, .int 0, .ref mH, .int 0, .int 0, .int 0, .int 0, .int (-1), .int (-1), .int 0, .ref mY, .int 0, .ref mE, .int 0, .int 0, .ref mW, .int 0, .ref mO, .int 0, .ref y1, .ref y2, .ref y3, .ref y4, .ref mZ])), (mL, .inl (cI, 512, .inl (fun _ => (-1))))]) [0, 1] rfl
    have hD9 := hD.sub (ws' := [(oM, .inr (12, [.ref mT, .int 0, .ref mS, .ref mX, .int 0, .int 0, .ref mL, .ref mB, .ref mD, .ref m1, .ref m2, .int 0, .ref mR, .int 0, .ref x1, .ref x2, .ref x3, .int 0, .ref mH, .int 0, .int 0, .int 0, .int 0, .int (-1), .int (-1), .int 0, .ref mY, .int 0, .ref mE, .int 0, .int 0, .ref mW, .int 0, .ref mO, .int 0, .ref y1, .ref y2, .ref y3, .ref y4, .ref mZ])), (mL, .inl (cI, 512, .inl (fun _ => (-1))))]) [0, 1] (by decide) rfl
    exact W.zret (v := 1) (ty := .boolean) hx hb hr (rfl) (fun t ht hW => ⟨⟨1, (), rfl, by first | rfl | decide | simp [g_cc, c_5], by rw [ht]; exact hP9, hD9⟩, hS.F ht⟩) (hS.2.2) dX12_canCome_60
  · refine lv_iload_n hx hb dX12_canCome_41 rfl (lv_at hl 2 rfl) ?_
    refine lv_sipush (v := 193) hx hb dX12_canCome_42 (by decide) ?_
    refine lv_icmp_le (tgt := 59) hx hb dX12_canCome_45 (by decide) (fun c_6 => ?_) (fun c_6 => ?_)
    · refine lv_iconst (v := 0) hx hb dX12_canCome_59 (by decide) ?_
      have hP9 := hP.sub (ws' := [(oM, .inr (12, [.ref mT, .int 0, .ref mS, .ref mX, .int 0, .int 0, .ref mL, .ref mB, .ref mD, .ref m1, .ref m2, .int 0, .ref mR, .int 0, .ref x1, .ref x2, .ref x3, .int 0, .ref mH, .int 0, .int 0, .int 0, .int 0, .int (-1), .int (-1), .int 0, .ref mY, .int 0, .ref mE, .int 0, .int 0, .ref mW, .int 0, .ref mO, .int 0, .ref y1, .ref y2, .ref y3, .ref y4, .ref mZ])), (mL, .inl (cI, 512, .inl (fun _ => (-1))))]) [0, 1] rfl
      have hD9 := hD.sub (ws' := [(oM, .inr (12, [.ref mT, .int 0, .ref mS, .ref mX, .int 0, .int 0, .ref mL, .ref mB, .ref mD, .ref m1, .ref m2, .int 0, .ref mR, .int 0, .ref x1, .ref x2, .ref x3, .int 0, .ref mH, .int 0, .int 0, .int 0, .int 0, .int (-1), .int (-1), .int 0, .ref mY, .int 0, .ref mE, .int 0, .int 0, .ref mW, .int 0, .ref mO, .int 0, .ref y1, .ref y2, .ref y3, .ref y4, .ref mZ])), (mL, .inl (cI, 512, .inl (fun _ => (-1))))]) [0, 1] (by decide) rfl
      exact W.zret (v := 0) (ty := .boolean) hx hb hr (rfl) (fun t ht hW => ⟨⟨0, (), rfl, by first | rfl | decide | simp [g_cc, c_5, c_6], by rw [ht]; exact hP9, hD9⟩, hS.F ht⟩) (hS.2.2) dX12_canCome_60
    · refine lv_iload_n hx hb dX12_canCome_48 rfl (lv_at hl 2 rfl) ?_
      refine lv_sipush (v := 240) hx hb dX12_canCome_49 (by decide) ?_
      refine lv_icmp_ge (tgt := 59) hx hb dX12_canCome_52 (by decide) (fun c_7 => ?_) (fun c_7 => ?_)
      · refine lv_iconst (v := 0) hx hb dX12_canCome_59 (by decide) ?_
        have hP9 := hP.sub (ws' := [(oM, .inr (12, [.ref mT, .int 0, .ref mS, .ref mX, .int 0, .int 0, .ref mL, .ref mB, .ref mD, .ref m1, .ref m2, .int 0, .ref mR, .int 0, .ref x1, .ref x2, .ref x3, .int 0, .ref mH, .int 0, .int 0, .int 0, .int 0, .int (-1), .int (-1), .int 0, .ref mY, .int 0, .ref mE, .int 0, .int 0, .ref mW, .int 0, .ref mO, .int 0, .ref y1, .ref y2, .ref y3, .ref y4, .ref mZ])), (mL, .inl (cI, 512, .inl (fun _ => (-1))))]) [0, 1] rfl
        have hD9 := hD.sub (ws' := [(oM, .inr (12, [.ref mT, .int 0, .ref mS, .ref mX, .int 0, .int 0, .ref mL, .ref mB, .ref mD, .ref m1, .ref m2, .int 0, .ref mR, .int 0, .ref x1, .ref x2, .ref x3, .int 0, .ref mH, .int 0, .int 0, .int 0, .int 0, .int (-1), .int (-1), .int 0, .ref mY, .int 0, .ref mE, .int 0, .int 0, .ref mW, .int 0, .ref mO, .int 0, .ref y1, .ref y2, .ref y3, .ref y4, .ref mZ])), (mL, .inl (cI, 512, .inl (fun _ => (-1))))]) [0, 1] (by decide) rfl
        exact W.zret (v := 0) (ty := .boolean) hx hb hr (rfl) (fun t ht hW => ⟨⟨0, (), rfl, by first | rfl | decide | simp [g_cc, c_5, c_6, c_7], by rw [ht]; exact hP9, hD9⟩, hS.F ht⟩) (hS.2.2) dX12_canCome_60
      · refine lv_iconst (v := 1) hx hb dX12_canCome_55 (by decide) ?_
        refine lv_goto (tgt := 60) hx hb dX12_canCome_56 (by decide) ?_
        have hP9 := hP.sub (ws' := [(oM, .inr (12, [.ref mT, .int 0, .ref mS, .ref mX, .int 0, .int 0, .ref mL, .ref mB, .ref mD, .ref m1, .ref m2, .int 0, .ref mR, .int 0, .ref x1, .ref x2, .ref x3, .int 0, .ref mH, .int 0, .int 0, .int 0, .int 0, .int (-1), .int (-1), .int 0, .ref mY, .int 0, .ref mE, .int 0, .int 0, .ref mW, .int 0, .ref mO, .int 0, .ref y1, .ref y2, .ref y3, .ref y4, .ref mZ])), (mL, .inl (cI, 512, .inl (fun _ => (-1))))]) [0, 1] rfl
        have hD9 := hD.sub (ws' := [(oM, .inr (12, [.ref mT, .int 0, .ref mS, .ref mX, .int 0, .int 0, .ref mL, .ref mB, .ref mD, .ref m1, .ref m2, .int 0, .ref mR, .int 0, .ref x1, .ref x2, .ref x3, .int 0, .ref mH, .int 0, .int 0, .int 0, .int 0, .int (-1), .int (-1), .int 0, .ref mY, .int 0, .ref mE, .int 0, .int 0, .ref mW, .int 0, .ref mO, .int 0, .ref y1, .ref y2, .ref y3, .ref y4, .ref mZ])), (mL, .inl (cI, 512, .inl (fun _ => (-1))))]) [0, 1] (by decide) rfl
        exact W.zret (v := 1) (ty := .boolean) hx hb hr (rfl) (fun t ht hW => ⟨⟨1, (), rfl, by first | rfl | decide | simp [g_cc, c_5, c_6, c_7], by rw [ht]; exact hP9, hD9⟩, hS.F ht⟩) (hS.2.2) dX12_canCome_60

set_option maxHeartbeats 4000000 in
set_option maxRecDepth 100000 in
theorem m_X12_canCome_3 (l : Launch) (dC : Nat → ClassId) (dI : Nat → Nat → Nat) (cI cS : ClassId) (sz : Nat) (oM : Nat) (mT : Nat) (mS : Nat) (mX : Nat) (mL : Nat) (mB : Nat) (mD : Nat) (m1 : Nat) (m2 : Nat) (mR : Nat) (x1 : Nat) (x2 : Nat) (x3 : Nat) (mH : Nat) (mY : Nat) (mE : Nat) (mW : Nat) (mO : Nat) (y1 : Nat) (y2 : Nat) (y3 : Nat) (y4 : Nat) (mZ : Nat) (v : Int32) (i : Nat) (hv : v = nI i) (hi : i < 256) : Met l yX12_canCome wsX12_canCome ({ frames := 0, cells := 0, slots := 0, locals := 0 } : Room) (va_Pc [.ref oM, .int 3, .int v] (fun U => U.heap.size = sz ∧ va_P (dC, dI) vwCl [(oM, .inr (12, [.ref mT, .int 0, .ref mS, .ref mX, .int 0, .int 0, .ref mL, .ref mB, .ref mD, .ref m1, .ref m2, .int 0, .ref mR, .int 0, .ref x1, .ref x2, .ref x3, .int 0, .ref mH, .int 0, .int 0, .int 0, .int 0, .int (-1), .int (-1), .int 0, .ref mY, .int 0, .ref mE, .int 0, .int 0, .ref mW, .int 0, .ref mO, .int 0, .ref y1, .ref y2, .ref y3, .ref y4, .ref mZ])), (mL, .inl (cI, 512, .inl (fun _ => (-1))))] U.heap ∧ va_K (dC, dI) vwCl [(cI, .int), (cS, .short)] U ∧ va_D (fun _ => True) [(oM, .inr (12, [.ref mT, .int 0, .ref mS, .ref mX, .int 0, .int 0, .ref mL, .ref mB, .ref mD, .ref m1, .ref m2, .int 0, .ref mR, .int 0, .ref x1, .ref x2, .ref x3, .int 0, .ref mH, .int 0, .int 0, .int 0, .int 0, .int (-1), .int (-1), .int 0, .ref mY, .int 0, .ref mE, .int 0, .int 0, .ref mW, .int 0, .ref mO, .int 0, .ref y1, .ref y2, .ref y3, .ref y4, .ref mZ])), (mL, .inl (cI, 512, .inl (fun _ => (-1))))])) (va_Qi (fun (r : Int32) (_ : Unit) => r = g_cc 3 v) (fun _ t => va_P (dC, dI) vwCl [(oM, .inr (12, [.ref mT, .int 0, .ref mS, .ref mX, .int 0, .int 0, .ref mL, .ref mB, .ref mD, .ref m1, .ref m2, .int 0, .ref mR, .int 0, .ref x1, .ref x2, .ref x3, .int 0, .ref mH, .int 0, .int 0, .int 0, .int 0, .int (-1), .int (-1), .int 0, .ref mY, .int 0, .ref mE, .int 0, .int 0, .ref mW, .int 0, .ref mO, .int 0, .ref y1, .ref y2, .ref y3, .ref y4, .ref mZ])), (mL, .inl (cI, 512, .inl (fun _ => (-1))))] t.heap ∧ va_D (va_A [(oM, .inr (12, [.ref mT, .int 0, .ref mS, .ref mX, .int 0, .int 0, .ref mL, .ref mB, .ref mD, .ref m1, .ref m2, .int 0, .ref mR, .int 0, .ref x1, .ref x2, .ref x3, .int 0, .ref mH, .int 0, .int 0, .int 0, .int 0, .int (-1), .int (-1), .int 0, .ref mY, .int 0, .ref mE, .int 0, .int 0, .ref mW, .int 0, .ref mO, .int 0, .ref y1, .ref y2, .ref y3, .ref y4, .ref mZ])), (mL, .inl (cI, 512, .inl (fun _ => (-1))))] sz) [(oM, .inr (12, [.ref mT, .int 0, .ref mS, .ref mX, .int 0, .int 0, .ref mL, .ref mB, .ref mD, .ref m1, .ref m2, .int 0, .ref mR, .int 0, .ref x1, .ref x2, .ref x3, .int 0, .ref mH, .int 0, .int 0, .int 0, .int 0, .int (-1), .int (-1), .int 0, .ref mY, .int 0, .ref mE, .int 0, .int 0, .ref mW, .int 0, .ref mO, .int 0, .ref y1, .ref y2, .ref y3, .ref y4, .ref mZ])), (mL, .inl (cI, 512, .inl (fun _ => (-1))))]) (va_A [(oM, .inr (12, [.ref mT, .int 0, .ref mS, .ref mX, .int 0, .int 0, .ref mL, .ref mB, .ref mD, .ref m1, .ref m2, .int 0, .ref mR, .int 0, .ref x1, .ref x2, .ref x3, .int 0, .ref mH, .int 0, .int 0, .int 0, .int 0, .int (-1), .int (-1), .int 0, .ref mY, .int 0, .ref mE, .int 0, .int 0, .ref mW, .int 0, .ref mO, .int 0, .ref y1, .ref y2, .ref y3, .ref y4, .ref mZ])), (mL, .inl (cI, 512, .inl (fun _ => (-1))))] sz)) 0 0 (va_A [(oM, .inr (12, [.ref mT, .int 0, .ref mS, .ref mX, .int 0, .int 0, .ref mL, .ref mB, .ref mD, .ref m1, .ref m2, .int 0, .ref mR, .int 0, .ref x1, .ref x2, .ref x3, .int 0, .ref mH, .int 0, .int 0, .int 0, .int 0, .int (-1), .int (-1), .int 0, .ref mY, .int 0, .ref mE, .int 0, .int 0, .ref mW, .int 0, .ref mO, .int 0, .ref y1, .ref y2, .ref y3, .ref y4, .ref mZ])), (mL, .inl (cI, 512, .inl (fun _ => (-1))))] sz) := by
  refine Met.ofW (cc := cX12_canCome) (maxL := 3) (ret := (some .boolean)) (by decide) rfl ?_
  intro p e s m args below meth c s₁ B hml hv
  obtain ⟨rfl, hsz, hP, hK, hD0⟩ := hv
  have hx := B.exec
  have hb := B.bytes
  have hr := B.returns
  have hts := atoms_spec (ws := wsX12_canCome) B.pre
  have hown : s.vm.findClass RX12 = some m.cls := findClass_of_methodNamed B.named
  have hlocks := B.notSynchronized
  subst hsz
  have hD := hD0.self (sz := s.heap.size)
  generalize hAe : va_A [(oM, .inr (12, [.ref mT, .int 0, .ref mS, .ref mX, .int 0, .int 0, .ref mL, .ref mB, .ref mD, .ref m1, .ref m2, .int 0, .ref mR, .int 0, .ref x1, .ref x2, .ref x3, .int 0, .ref mH, .int 0, .int 0, .int 0, .int 0, .int (-1), .int (-1), .int 0, .ref mY, .int 0, .ref mE, .int 0, .int 0, .ref mW, .int 0, .ref mO, .int 0, .ref y1, .ref y2, .ref y3, .ref y4, .ref mZ])), (mL, .inl (cI, 512, .inl (fun _ => (-1))))] s.heap.size = A at hD ⊢
  have hA : ∀ q : Nat, s.heap.size ≤ q → A q := fun q h => by rw [← hAe]; exact Or.inr h
  have hS : va_S A s.heap s.heap [] := va_S.rf
  have hP : va_P (dC, dI) vwCl [(oM, .inr (12, [.ref mT, .int 0, .ref mS, .ref mX, .int 0, .int 0, .ref mL, .ref mB, .ref mD, .ref m1, .ref m2, .int 0, .ref mR, .int 0, .ref x1, .ref x2, .ref x3, .int 0, .ref mH, .int 0, .int 0, .int 0, .int 0, .int (-1), .int (-1), .int 0, .ref mY, .int 0, .ref mE, .int 0, .int 0, .ref mW, .int 0, .ref mO, .int 0, .ref y1, .ref y2, .ref y3, .ref y4, .ref mZ])), (mL, .inl (cI, 512, .inl (fun _ => (-1))))] s.heap := hP
  have hl := lv_entry ([.ref oM, .int 3, .int v]) (n := 3) (Nat.le_of_ble_eq_true rfl)
  rw [lg_entry_eq]
  generalize (lg_sl ([.ref oM, .int 3, .int v]) ++ List.replicate (3 - (lg_sl ([.ref oM, .int 3, .int v])).length) Slot.unset).toArray = ls at hl ⊢
  have hl : lv_has ls 3 [(0, .ref oM), (1, .int 3), (2, .int v)] := hl
  refine lv_iload_n hx hb dX12_canCome_0 rfl (lv_at hl 1 rfl) ?_
  refine lv_if_eq (tgt := 9) hx hb dX12_canCome_1 (by decide) (fun c_1 => absurd c_1 (by decide)) (fun c_1 => ?_)
  refine lv_iload_n hx hb dX12_canCome_4 rfl (lv_at hl 1 rfl) ?_
  refine lv_iconst (v := 3) hx hb dX12_canCome_5 (by decide) ?_
  refine lv_icmp_ne (tgt := 22) hx hb dX12_canCome_6 (by decide) (fun c_2 => absurd (by decide) c_2) (fun c_2 => ?_)
  refine lv_iload_n hx hb dX12_canCome_9 rfl (lv_at hl 2 rfl) ?_
  refine lv_sipush (v := 128) hx hb dX12_canCome_10 (by decide) ?_
  refine lv_icmp_ge (tgt := 20) hx hb dX12_canCome_13 (by decide) (fun c_3 => ?_) (fun c_3 => ?_)
  · refine lv_iconst (v := 0) hx hb dX12_canCome_20 (by decide) ?_
    have hP9 := hP.sub (ws' := [(oM, .inr (12, [.ref mT, .int 0, .ref mS, .ref mX, .int 0, .int 0, .ref mL, .ref mB, .ref mD, .ref m1, .ref m2, .int 0, .ref mR, .int 0, .ref x1, .ref x2, .ref x3, .int 0, .ref mH, .int 0, .int 0, .int 0, .int 0, .int (-1), .int (-1), .int 0, .ref mY, .int 0, .ref mE, .int 0, .int 0, .ref mW, .int 0, .ref mO, .int 0, .ref y1, .ref y2, .ref y3, .ref y4, .ref mZ])), (mL, .inl (cI, 512, .inl (fun _ => (-1))))]) [0, 1] rfl
    have hD9 := hD.sub (ws' := [(oM, .inr (12, [.ref mT, .int 0, .ref mS, .ref mX, .int 0, .int 0, .ref mL, .ref mB, .ref mD, .ref m1, .ref m2, .int 0, .ref mR, .int 0, .ref x1, .ref x2, .ref x3, .int 0, .ref mH, .int 0, .int 0, .int 0, .int 0, .int (-1), .int (-1), .int 0, .ref mY, .int 0, .ref mE, .int 0, .int 0, .ref mW, .int 0, .ref mO, .int 0, .ref y1, .ref y2, .ref y3, .ref y4, .ref mZ])), (mL, .inl (cI, 512, .inl (fun _ => (-1))))]) [0, 1] (by decide) rfl
    exact W.zret (v := 0) (ty := .boolean) hx hb hr (rfl) (fun t ht hW => ⟨⟨0, (), rfl, by first | rfl | decide | simp [g_cc, c_3], by rw [ht]; exact hP9, hD9⟩, hS.F ht⟩) (hS.2.2) dX12_canCome_21
  · refine lv_iconst (v := 1) hx hb dX12_canCome_16 (by decide) ?_
    refine lv_goto (tgt := 21) hx hb dX12_canCome_17 (by decide) ?_
    have hP9 := hP.sub (ws' := [(oM, .inr (12, [.ref mT, .int 0, .ref mS, .ref mX, .int 0, .int 0, .ref mL, .ref mB, .ref mD, .ref m1, .ref m2, .int 0, .ref mR, .int 0, .ref x1, .ref x2, .ref x3, .int 0, .ref mH, .int 0, .int 0, .int 0, .int 0, .int (-1), .int (-1), .int 0, .ref mY, .int 0, .ref mE, .int 0, .int 0, .ref mW, .int 0, .ref mO, .int 0, .ref y1, .ref y2, .ref y3, .ref y4, .ref mZ])), (mL, .inl (cI, 512, .inl (fun _ => (-1))))]) [0, 1] rfl
    have hD9 := hD.sub (ws' := [(oM, .inr (12, [.ref mT, .int 0, .ref mS, .ref mX, .int 0, .int 0, .ref mL, .ref mB, .ref mD, .ref m1, .ref m2, .int 0, .ref mR, .int 0, .ref x1, .ref x2, .ref x3, .int 0, .ref mH, .int 0, .int 0, .int 0, .int 0, .int (-1), .int (-1), .int 0, .ref mY, .int 0, .ref mE, .int 0, .int 0, .ref mW, .int 0, .ref mO, .int 0, .ref y1, .ref y2, .ref y3, .ref y4, .ref mZ])), (mL, .inl (cI, 512, .inl (fun _ => (-1))))]) [0, 1] (by decide) rfl
    exact W.zret (v := 1) (ty := .boolean) hx hb hr (rfl) (fun t ht hW => ⟨⟨1, (), rfl, by first | rfl | decide | simp [g_cc, c_3], by rw [ht]; exact hP9, hD9⟩, hS.F ht⟩) (hS.2.2) dX12_canCome_21

set_option maxHeartbeats 4000000 in
set_option maxRecDepth 100000 in
theorem m_X12_canCome_4 (l : Launch) (dC : Nat → ClassId) (dI : Nat → Nat → Nat) (cI cS : ClassId) (sz : Nat) (oM : Nat) (mT : Nat) (mS : Nat) (mX : Nat) (mL : Nat) (mB : Nat) (mD : Nat) (m1 : Nat) (m2 : Nat) (mR : Nat) (x1 : Nat) (x2 : Nat) (x3 : Nat) (mH : Nat) (mY : Nat) (mE : Nat) (mW : Nat) (mO : Nat) (y1 : Nat) (y2 : Nat) (y3 : Nat) (y4 : Nat) (mZ : Nat) (v : Int32) (i : Nat) (hv : v = nI i) (hi : i < 256) : Met l yX12_canCome wsX12_canCome ({ frames := 0, cells := 0, slots := 0, locals := 0 } : Room) (va_Pc [.ref oM, .int 4, .int v] (fun U => U.heap.size = sz ∧ va_P (dC, dI) vwCl [(oM, .inr (12, [.ref mT, .int 0, .ref mS, .ref mX, .int 0, .int 0, .ref mL, .ref mB, .ref mD, .ref m1, .ref m2, .int 0, .ref mR, .int 0, .ref x1, .ref x2, .ref x3, .int 0, .ref mH, .int 0, .int 0, .int 0, .int 0, .int (-1), .int (-1), .int 0, .ref mY, .int 0, .ref mE, .int 0, .int 0, .ref mW, .int 0, .ref mO, .int 0, .ref y1, .ref y2, .ref y3, .ref y4, .ref mZ])), (mL, .inl (cI, 512, .inl (fun _ => (-1))))] U.heap ∧ va_K (dC, dI) vwCl [(cI, .int), (cS, .short)] U ∧ va_D (fun _ => True) [(oM, .inr (12, [.ref mT, .int 0, .ref mS, .ref mX, .int 0, .int 0, .ref mL, .ref mB, .ref mD, .ref m1, .ref m2, .int 0, .ref mR, .int 0, .ref x1, .ref x2, .ref x3, .int 0, .ref mH, .int 0, .int 0, .int 0, .int 0, .int (-1), .int (-1), .int 0, .ref mY, .int 0, .ref mE, .int 0, .int 0, .ref mW, .int 0, .ref mO, .int 0, .ref y1, .ref y2, .ref y3, .ref y4, .ref mZ])), (mL, .inl (cI, 512, .inl (fun _ => (-1))))])) (va_Qi (fun (r : Int32) (_ : Unit) => r = g_cc 4 v) (fun _ t => va_P (dC, dI) vwCl [(oM, .inr (12, [.ref mT, .int 0, .ref mS, .ref mX, .int 0, .int 0, .ref mL, .ref mB, .ref mD, .ref m1, .ref m2, .int 0, .ref mR, .int 0, .ref x1, .ref x2, .ref x3, .int 0, .ref mH, .int 0, .int 0, .int 0, .int 0, .int (-1), .int (-1), .int 0, .ref mY, .int 0, .ref mE, .int 0, .int 0, .ref mW, .int 0, .ref mO, .int 0, .ref y1, .ref y2, .ref y3, .ref y4, .ref mZ])), (mL, .inl (cI, 512, .inl (fun _ => (-1))))] t.heap ∧ va_D (va_A [(oM, .inr (12, [.ref mT, .int 0, .ref mS, .ref mX, .int 0, .int 0, .ref mL, .ref mB, .ref mD, .ref m1, .ref m2, .int 0, .ref mR, .int 0, .ref x1, .ref x2, .ref x3, .int 0, .ref mH, .int 0, .int 0, .int 0, .int 0, .int (-1), .int (-1), .int 0, .ref mY, .int 0, .ref mE, .int 0, .int 0, .ref mW, .int 0, .ref mO, .int 0, .ref y1, .ref y2, .ref y3, .ref y4, .ref mZ])), (mL, .inl (cI, 512, .inl (fun _ => (-1))))] sz) [(oM, .inr (12, [.ref mT, .int 0, .ref mS, .ref mX, .int 0, .int 0, .ref mL, .ref mB, .ref mD, .ref m1, .ref m2, .int 0, .ref mR, .int 0, .ref x1, .ref x2, .ref x3, .int 0, .ref mH, .int 0, .int 0, .int 0, .int 0, .int (-1), .int (-1), .int 0, .ref mY, .int 0, .ref mE, .int 0, .int 0, .ref mW, .int 0, .ref mO, .int 0, .ref y1, .ref y2, .ref y3, .ref y4, .ref mZ])), (mL, .inl (cI, 512, .inl (fun _ => (-1))))]) (va_A [(oM, .inr (12, [.ref mT, .int 0, .ref mS, .ref mX, .int 0, .int 0, .ref mL, .ref mB, .ref mD, .ref m1, .ref m2, .int 0, .ref mR, .int 0, .ref x1, .ref x2, .ref x3, .int 0, .ref mH, .int 0, .int 0, .int 0, .int 0, .int (-1), .int (-1), .int 0, .ref mY, .int 0, .ref mE, .int 0, .int 0, .ref mW, .int 0, .ref mO, .int 0, .ref y1, .ref y2, .ref y3, .ref y4, .ref mZ])), (mL, .inl (cI, 512, .inl (fun _ => (-1))))] sz)) 0 0 (va_A [(oM, .inr (12, [.ref mT, .int 0, .ref mS, .ref mX, .int 0, .int 0, .ref mL, .ref mB, .ref mD, .ref m1, .ref m2, .int 0, .ref mR, .int 0, .ref x1, .ref x2, .ref x3, .int 0, .ref mH, .int 0, .int 0, .int 0, .int 0, .int (-1), .int (-1), .int 0, .ref mY, .int 0, .ref mE, .int 0, .int 0, .ref mW, .int 0, .ref mO, .int 0, .ref y1, .ref y2, .ref y3, .ref y4, .ref mZ])), (mL, .inl (cI, 512, .inl (fun _ => (-1))))] sz) := by
  refine Met.ofW (cc := cX12_canCome) (maxL := 3) (ret := (some .boolean)) (by decide) rfl ?_
  intro p e s m args below meth c s₁ B hml hv
  obtain ⟨rfl, hsz, hP, hK, hD0⟩ := hv
  have hx := B.exec
  have hb := B.bytes
  have hr := B.returns
  have hts := atoms_spec (ws := wsX12_canCome) B.pre
  have hown : s.vm.findClass RX12 = some m.cls := findClass_of_methodNamed B.named
  have hlocks := B.notSynchronized
  have in_X12 : ∀ w ∈ wsX120, w ∈ wsX12_canCome := fun _ h => List.mem_cons_of_mem _ (List.mem_append_right _ (h))
  subst hsz
  have hD := hD0.self (sz := s.heap.size)
  generalize hAe : va_A [(oM, .inr (12, [.ref mT, .int 0, .ref mS, .ref mX, .int 0, .int 0, .ref mL, .ref mB, .ref mD, .ref m1, .ref m2, .int 0, .ref mR, .int 0, .ref x1, .ref x2, .ref x3, .int 0, .ref mH, .int 0, .int 0, .int 0, .int 0, .int (-1), .int (-1), .int 0, .ref mY, .int 0, .ref mE, .int 0, .int 0, .ref mW, .int 0, .ref mO, .int 0, .ref y1, .ref y2, .ref y3, .ref y4, .ref mZ])), (mL, .inl (cI, 512, .inl (fun _ => (-1))))] s.heap.size = A at hD ⊢
  have hA : ∀ q : Nat, s.heap.size ≤ q → A q := fun q h => by rw [← hAe]; exact Or.inr h
  have hS : va_S A s.heap s.heap [] := va_S.rf
  have hP : va_P (dC, dI) vwCl [(oM, .inr (12, [.ref mT, .int 0, .ref mS, .ref mX, .int 0, .int 0, .ref mL, .ref mB, .ref mD, .ref m1, .ref m2, .int 0, .ref mR, .int 0, .ref x1, .ref x2, .ref x3, .int 0, .ref mH, .int 0, .int 0, .int 0, .int 0, .int (-1), .int (-1), .int 0, .ref mY, .int 0, .ref mE, .int 0, .int 0, .ref mW, .int 0, .ref mO, .int 0, .ref y1, .ref y2, .ref y3, .ref y4, .ref mZ])), (mL, .inl (cI, 512, .inl (fun _ => (-1))))] s.heap := hP
  have hl := lv_entry ([.ref oM, .int 4, .int v]) (n := 3) (Nat.le_of_ble_eq_true rfl)
  rw [lg_entry_eq]
  generalize (lg_sl ([.ref oM, .int 4, .int v]) ++ List.replicate (3 - (lg_sl ([.ref oM, .int 4, .int v])).length) Slot.unset).toArray = ls at hl ⊢
  have hl : lv_has ls 3 [(0, .ref oM), (1, .int 4), (2, .int v)] := hl
  refine lv_iload_n hx hb dX12_canCome_0 rfl (lv_at hl 1 rfl) ?_
  refine lv_if_eq (tgt := 9) hx hb dX12_canCome_1 (by decide) (fun c_1 => absurd c_1 (by decide)) (fun c_1 => ?_)
  refine lv_iload_n hx hb dX12_canCome_4 rfl (lv_at hl 1 rfl) ?_
  refine lv_iconst (v := 3) hx hb dX12_canCome_5 (by decide) ?_
  refine lv_icmp_ne (tgt := 22) hx hb dX12_canCome_6 (by decide) (fun c_2 => ?_) (fun c_2 => absurd c_2 (by decide))
  refine lv_iload_n hx hb dX12_canCome_22 rfl (lv_at hl 1 rfl) ?_
  refine lv_iconst (v := 1) hx hb dX12_canCome_23 (by decide) ?_
  refine lv_icmp_ne (tgt := 29) hx hb dX12_canCome_24 (by decide) (fun c_3 => ?_) (fun c_3 => absurd c_3 (by decide))
  refine lv_iload_n hx hb dX12_canCome_29 rfl (lv_at hl 1 rfl) ?_
  refine lv_iconst (v := 2) hx hb dX12_canCome_30 (by decide) ?_
  refine lv_icmp_ne (tgt := 61) hx hb dX12_canCome_31 (by decide) (fun c_4 => ?_) (fun c_4 => absurd c_4 (by decide))
  refine lv_aload_n hx hb dX12_canCome_61 rfl (lv_at hl 0 rfl) ?_
  refine va_get (D := (dC, dI)) (ci := 12) (v := .ref mL) (C := RX12) (T := TX12) (N := 40) hx hb hts in_X12 hown hK hP 0 rfl rfl 6 (by decide) (hts (.fieldLink RX12 19 "TextMenderModel" "letterOf" "[I") (List.mem_of_getElem? (i := 1) rfl)) (fun _ h9 => h9) rfl dX12_canCome_62 ?_
  refine lv_sipush (v := 256) hx hb dX12_canCome_65 (by decide) ?_
  refine lv_iload_n hx hb dX12_canCome_68 rfl (lv_at hl 1 rfl) ?_
  refine lv_iconst (v := 4) hx hb dX12_canCome_69 (by decide) ?_
  refine lv_isub hx hb dX12_canCome_70 ?_
  refine k_i (y := 0) (by decide) ?_
  refine lv_imul hx hb dX12_canCome_71 ?_
  refine k_i (y := 0) (by decide) ?_
  refine lv_iload_n hx hb dX12_canCome_72 rfl (lv_at hl 2 rfl) ?_
  refine lv_iadd hx hb dX12_canCome_73 ?_
  refine lv_topi (fun x_5 ex_5 => ?_)
  refine va_iald hx hb hK hP 1 0 rfl rfl (p_inadd 0 i 512 ex_5 rfl hv (by omega) (by decide)) dX12_canCome_74 ?_
  refine k_i (y := (-1)) rfl ?_
  refine lv_iconst (v := (-1)) hx hb dX12_canCome_75 (by decide) ?_
  refine lv_icmp_eq (tgt := 83) hx hb dX12_canCome_76 (by decide) (fun c_6 => ?_) (fun c_6 => absurd (by decide) c_6)
  refine lv_iconst (v := 0) hx hb dX12_canCome_83 (by decide) ?_
  have hP9 := hP.sub (ws' := [(oM, .inr (12, [.ref mT, .int 0, .ref mS, .ref mX, .int 0, .int 0, .ref mL, .ref mB, .ref mD, .ref m1, .ref m2, .int 0, .ref mR, .int 0, .ref x1, .ref x2, .ref x3, .int 0, .ref mH, .int 0, .int 0, .int 0, .int 0, .int (-1), .int (-1), .int 0, .ref mY, .int 0, .ref mE, .int 0, .int 0, .ref mW, .int 0, .ref mO, .int 0, .ref y1, .ref y2, .ref y3, .ref y4, .ref mZ])), (mL, .inl (cI, 512, .inl (fun _ => (-1))))]) [0, 1] rfl
  have hD9 := hD.sub (ws' := [(oM, .inr (12, [.ref mT, .int 0, .ref mS, .ref mX, .int 0, .int 0, .ref mL, .ref mB, .ref mD, .ref m1, .ref m2, .int 0, .ref mR, .int 0, .ref x1, .ref x2, .ref x3, .int 0, .ref mH, .int 0, .int 0, .int 0, .int 0, .int (-1), .int (-1), .int 0, .ref mY, .int 0, .ref mE, .int 0, .int 0, .ref mW, .int 0, .ref mO, .int 0, .ref y1, .ref y2, .ref y3, .ref y4, .ref mZ])), (mL, .inl (cI, 512, .inl (fun _ => (-1))))]) [0, 1] (by decide) rfl
  exact W.zret (v := 0) (ty := .boolean) hx hb hr (rfl) (fun t ht hW => ⟨⟨0, (), rfl, by first | rfl | decide | simp [g_cc, ], by rw [ht]; exact hP9, hD9⟩, hS.F ht⟩) (hS.2.2) dX12_canCome_84

set_option maxHeartbeats 4000000 in
set_option maxRecDepth 100000 in
theorem m_X12_canCome_5 (l : Launch) (dC : Nat → ClassId) (dI : Nat → Nat → Nat) (cI cS : ClassId) (sz : Nat) (oM : Nat) (mT : Nat) (mS : Nat) (mX : Nat) (mL : Nat) (mB : Nat) (mD : Nat) (m1 : Nat) (m2 : Nat) (mR : Nat) (x1 : Nat) (x2 : Nat) (x3 : Nat) (mH : Nat) (mY : Nat) (mE : Nat) (mW : Nat) (mO : Nat) (y1 : Nat) (y2 : Nat) (y3 : Nat) (y4 : Nat) (mZ : Nat) (v : Int32) (i : Nat) (hv : v = nI i) (hi : i < 256) : Met l yX12_canCome wsX12_canCome ({ frames := 0, cells := 0, slots := 0, locals := 0 } : Room) (va_Pc [.ref oM, .int 5, .int v] (fun U => U.heap.size = sz ∧ va_P (dC, dI) vwCl [(oM, .inr (12, [.ref mT, .int 0, .ref mS, .ref mX, .int 0, .int 0, .ref mL, .ref mB, .ref mD, .ref m1, .ref m2, .int 0, .ref mR, .int 0, .ref x1, .ref x2, .ref x3, .int 0, .ref mH, .int 0, .int 0, .int 0, .int 0, .int (-1), .int (-1), .int 0, .ref mY, .int 0, .ref mE, .int 0, .int 0, .ref mW, .int 0, .ref mO, .int 0, .ref y1, .ref y2, .ref y3, .ref y4, .ref mZ])), (mL, .inl (cI, 512, .inl (fun _ => (-1))))] U.heap ∧ va_K (dC, dI) vwCl [(cI, .int), (cS, .short)] U ∧ va_D (fun _ => True) [(oM, .inr (12, [.ref mT, .int 0, .ref mS, .ref mX, .int 0, .int 0, .ref mL, .ref mB, .ref mD, .ref m1, .ref m2, .int 0, .ref mR, .int 0, .ref x1, .ref x2, .ref x3, .int 0, .ref mH, .int 0, .int 0, .int 0, .int 0, .int (-1), .int (-1), .int 0, .ref mY, .int 0, .ref mE, .int 0, .int 0, .ref mW, .int 0, .ref mO, .int 0, .ref y1, .ref y2, .ref y3, .ref y4, .ref mZ])), (mL, .inl (cI, 512, .inl (fun _ => (-1))))])) (va_Qi (fun (r : Int32) (_ : Unit) => r = g_cc 5 v) (fun _ t => va_P (dC, dI) vwCl [(oM, .inr (12, [.ref mT, .int 0, .ref mS, .ref mX, .int 0, .int 0, .ref mL, .ref mB, .ref mD, .ref m1, .ref m2, .int 0, .ref mR, .int 0, .ref x1, .ref x2, .ref x3, .int 0, .ref mH, .int 0, .int 0, .int 0, .int 0, .int (-1), .int (-1), .int 0, .ref mY, .int 0, .ref mE, .int 0, .int 0, .ref mW, .int 0, .ref mO, .int 0, .ref y1, .ref y2, .ref y3, .ref y4, .ref mZ])), (mL, .inl (cI, 512, .inl (fun _ => (-1))))] t.heap ∧ va_D (va_A [(oM, .inr (12, [.ref mT, .int 0, .ref mS, .ref mX, .int 0, .int 0, .ref mL, .ref mB, .ref mD, .ref m1, .ref m2, .int 0, .ref mR, .int 0, .ref x1, .ref x2, .ref x3, .int 0, .ref mH, .int 0, .int 0, .int 0, .int 0, .int (-1), .int (-1), .int 0, .ref mY, .int 0, .ref mE, .int 0, .int 0, .ref mW, .int 0, .ref mO, .int 0, .ref y1, .ref y2, .ref y3, .ref y4, .ref mZ])), (mL, .inl (cI, 512, .inl (fun _ => (-1))))] sz) [(oM, .inr (12, [.ref mT, .int 0, .ref mS, .ref mX, .int 0, .int 0, .ref mL, .ref mB, .ref mD, .ref m1, .ref m2, .int 0, .ref mR, .int 0, .ref x1, .ref x2, .ref x3, .int 0, .ref mH, .int 0, .int 0, .int 0, .int 0, .int (-1), .int (-1), .int 0, .ref mY, .int 0, .ref mE, .int 0, .int 0, .ref mW, .int 0, .ref mO, .int 0, .ref y1, .ref y2, .ref y3, .ref y4, .ref mZ])), (mL, .inl (cI, 512, .inl (fun _ => (-1))))]) (va_A [(oM, .inr (12, [.ref mT, .int 0, .ref mS, .ref mX, .int 0, .int 0, .ref mL, .ref mB, .ref mD, .ref m1, .ref m2, .int 0, .ref mR, .int 0, .ref x1, .ref x2, .ref x3, .int 0, .ref mH, .int 0, .int 0, .int 0, .int 0, .int (-1), .int (-1), .int 0, .ref mY, .int 0, .ref mE, .int 0, .int 0, .ref mW, .int 0, .ref mO, .int 0, .ref y1, .ref y2, .ref y3, .ref y4, .ref mZ])), (mL, .inl (cI, 512, .inl (fun _ => (-1))))] sz)) 0 0 (va_A [(oM, .inr (12, [.ref mT, .int 0, .ref mS, .ref mX, .int 0, .int 0, .ref mL, .ref mB, .ref mD, .ref m1, .ref m2, .int 0, .ref mR, .int 0, .ref x1, .ref x2, .ref x3, .int 0, .ref mH, .int 0, .int 0, .int 0, .int 0, .int (-1), .int (-1), .int 0, .ref mY, .int 0, .ref mE, .int 0, .int 0, .ref mW, .int 0, .ref mO, .int 0, .ref y1, .ref y2, .ref y3, .ref y4, .ref mZ])), (mL, .inl (cI, 512, .inl (fun _ => (-1))))] sz) := by
  refine Met.ofW (cc := cX12_canCome) (maxL := 3) (ret := (some .boolean)) (by decide) rfl ?_
  intro p e s m args below meth c s₁ B hml hv
  obtain ⟨rfl, hsz, hP, hK, hD0⟩ := hv
  have hx := B.exec
  have hb := B.bytes
  have hr := B.returns
  have hts := atoms_spec (ws := wsX12_canCome) B.pre
  have hown : s.vm.findClass RX12 = some m.cls := findClass_of_methodNamed B.named
  have hlocks := B.notSynchronized
  have in_X12 : ∀ w ∈ wsX120, w ∈ wsX12_canCome := fun _ h => List.mem_cons_of_mem _ (List.mem_append_right _ (h))
  subst hsz
  have hD := hD0.self (sz := s.heap.size)
  generalize hAe : va_A [(oM, .inr (12, [.ref mT, .int 0, .ref mS, .ref mX, .int 0, .int 0, .ref mL, .ref mB, .ref mD, .ref m1, .ref m2, .int 0, .ref mR, .int 0, .ref x1, .ref x2, .ref x3, .int 0, .ref mH, .int 0, .int 0, .int 0, .int 0, .int (-1), .int (-1), .int 0, .ref mY, .int 0, .ref mE, .int 0, .int 0, .ref mW, .int 0, .ref mO, .int 0, .ref y1, .ref y2, .ref y3, .ref y4, .ref mZ])), (mL, .inl (cI, 512, .inl (fun _ => (-1))))] s.heap.size = A at hD ⊢
  have hA : ∀ q : Nat, s.heap.size ≤ q → A q := fun q h => by rw [← hAe]; exact Or.inr h
  have hS : va_S A s.heap s.heap [] := va_S.rf
  have hP : va_P (dC, dI) vwCl [(oM, .inr (12, [.ref mT, .int 0, .ref mS, .ref mX, .int 0, .int 0, .ref mL, .ref mB, .ref mD, .ref m1, .ref m2, .int 0, .ref mR, .int 0, .ref x1, .ref x2, .ref x3, .int 0, .ref mH, .int 0, .int 0, .int 0, .int 0, .int (-1), .int (-1), .int 0, .ref mY, .int 0, .ref mE, .int 0, .int 0, .ref mW, .int 0, .ref mO, .int 0, .ref y1, .ref y2, .ref y3, .ref y4, .ref mZ])), (mL, .inl (cI, 512, .inl (fun _ => (-1))))] s.heap := hP
  have hl := lv_entry ([.ref oM, .int 5, .int v]) (n := 3) (Nat.le_of_ble_eq_true rfl)
  rw [lg_entry_eq]
  generalize (lg_sl ([.ref oM, .int 5, .int v]) ++ List.replicate (3 - (lg_sl ([.ref oM, .int 5, .int v])).length) Slot.unset).toArray = ls at hl ⊢
  have hl : lv_has ls 3 [(0, .ref oM), (1, .int 5), (2, .int v)] := hl
  refine lv_iload_n hx hb dX12_canCome_0 rfl (lv_at hl 1 rfl) ?_
  refine lv_if_eq (tgt := 9) hx hb dX12_canCome_1 (by decide) (fun c_1 => absurd c_1 (by decide)) (fun c_1 => ?_)
  refine lv_iload_n hx hb dX12_canCome_4 rfl (lv_at hl 1 rfl) ?_
  refine lv_iconst (v := 3) hx hb dX12_canCome_5 (by decide) ?_
  refine lv_icmp_ne (tgt := 22) hx hb dX12_canCome_6 (by decide) (fun c_2 => ?_) (fun c_2 => absurd c_2 (by decide))
  refine lv_iload_n hx hb dX12_canCome_22 rfl (lv_at hl 1 rfl) ?_
  refine lv_iconst (v := 1) hx hb dX12_canCome_23 (by decide) ?_
  refine lv_icmp_ne (tgt := 29) hx hb dX12_canCome_24 (by decide) (fun c_3 => ?_) (fun c_3 => absurd c_3 (by decide))
  refine lv_iload_n hx hb dX12_canCome_29 rfl (lv_at hl 1 rfl) ?_
  refine lv_iconst (v := 2) hx hb dX12_canCome_30 (by decide) ?_
  refine lv_icmp_ne (tgt := 61) hx hb dX12_canCome_31 (by decide) (fun c_4 => ?_) (fun c_4 => absurd c_4 (by decide))
  refine lv_aload_n hx hb dX12_canCome_61 rfl (lv_at hl 0 rfl) ?_
  refine va_get (D := (dC, dI)) (ci := 12) (v := .ref mL) (C := RX12) (T := TX12) (N := 40) hx hb hts in_X12 hown hK hP 0 rfl rfl 6 (by decide) (hts (.fieldLink RX12 19 "TextMenderModel" "letterOf" "[I") (List.mem_of_getElem? (i := 1) rfl)) (fun _ h9 => h9) rfl dX12_canCome_62 ?_
  refine lv_sipush (v := 256) hx hb dX12_canCome_65 (by decide) ?_
  refine lv_iload_n hx hb dX12_canCome_68 rfl (lv_at hl 1 rfl) ?_
  refine lv_iconst (v := 4) hx hb dX12_canCome_69 (by decide) ?_
  refine lv_isub hx hb dX12_canCome_70 ?_
  refine k_i (y := 1) (by decide) ?_
  refine lv_imul hx hb dX12_canCome_71 ?_
  refine k_i (y := 256) (by decide) ?_
  refine lv_iload_n hx hb dX12_canCome_72 rfl (lv_at hl 2 rfl) ?_
  refine lv_iadd hx hb dX12_canCome_73 ?_
  refine lv_topi (fun x_5 ex_5 => ?_)
  refine va_iald hx hb hK hP 1 0 rfl rfl (p_inadd 256 i 512 ex_5 rfl hv (by omega) (by decide)) dX12_canCome_74 ?_
  refine k_i (y := (-1)) rfl ?_
  refine lv_iconst (v := (-1)) hx hb dX12_canCome_75 (by decide) ?_
  refine lv_icmp_eq (tgt := 83) hx hb dX12_canCome_76 (by decide) (fun c_6 => ?_) (fun c_6 => absurd (by decide) c_6)
  refine lv_iconst (v := 0) hx hb dX12_canCome_83 (by decide) ?_
  have hP9 := hP.sub (ws' := [(oM, .inr (12, [.ref mT, .int 0, .ref mS, .ref mX, .int 0, .int 0, .ref mL, .ref mB, .ref mD, .ref m1, .ref m2, .int 0, .ref mR, .int 0, .ref x1, .ref x2, .ref x3, .int 0, .ref mH, .int 0, .int 0, .int 0, .int 0, .int (-1), .int (-1), .int 0, .ref mY, .int 0, .ref mE, .int 0, .int 0, .ref mW, .int 0, .ref mO, .int 0, .ref y1, .ref y2, .ref y3, .ref y4, .ref mZ])), (mL, .inl (cI, 512, .inl (fun _ => (-1))))]) [0, 1] rfl
  have hD9 := hD.sub (ws' := [(oM, .inr (12, [.ref mT, .int 0, .ref mS, .ref mX, .int 0, .int 0, .ref mL, .ref mB, .ref mD, .ref m1, .ref m2, .int 0, .ref mR, .int 0, .ref x1, .ref x2, .ref x3, .int 0, .ref mH, .int 0, .int 0, .int 0, .int 0, .int (-1), .int (-1), .int 0, .ref mY, .int 0, .ref mE, .int 0, .int 0, .ref mW, .int 0, .ref mO, .int 0, .ref y1, .ref y2, .ref y3, .ref y4, .ref mZ])), (mL, .inl (cI, 512, .inl (fun _ => (-1))))]) [0, 1] (by decide) rfl
  exact W.zret (v := 0) (ty := .boolean) hx hb hr (rfl) (fun t ht hW => ⟨⟨0, (), rfl, by first | rfl | decide | simp [g_cc, ], by rw [ht]; exact hP9, hD9⟩, hS.F ht⟩) (hS.2.2) dX12_canCome_84

theorem m_X12_canCome (l : Launch) (dC : Nat → ClassId) (dI : Nat → Nat → Nat) (cI cS : ClassId) (sz : Nat) (oM : Nat) (mT : Nat) (mS : Nat) (mX : Nat) (mL : Nat) (mB : Nat) (mD : Nat) (m1 : Nat) (m2 : Nat) (mR : Nat) (x1 : Nat) (x2 : Nat) (x3 : Nat) (mH : Nat) (mY : Nat) (mE : Nat) (mW : Nat) (mO : Nat) (y1 : Nat) (y2 : Nat) (y3 : Nat) (y4 : Nat) (mZ : Nat) (cd : Int32) (v : Int32) (i : Nat) (hcd : is_code cd) (hv : v = nI i) (hi : i < 256) : Met l yX12_canCome wsX12_canCome ({ frames := 0, cells := 0, slots := 0, locals := 0 } : Room) (va_Pc [.ref oM, .int cd, .int v] (fun U => U.heap.size = sz ∧ va_P (dC, dI) vwCl [(oM, .inr (12, [.ref mT, .int 0, .ref mS, .ref mX, .int 0, .int 0, .ref mL, .ref mB, .ref mD, .ref m1, .ref m2, .int 0, .ref mR, .int 0, .ref x1, .ref x2, .ref x3, .int 0, .ref mH, .int 0, .int 0, .int 0, .int 0, .int (-1), .int (-1), .int 0, .ref mY, .int 0, .ref mE, .int 0, .int 0, .ref mW, .int 0, .ref mO, .int 0, .ref y1, .ref y2, .ref y3, .ref y4, .ref mZ])), (mL, .inl (cI, 512, .inl (fun _ => (-1))))] U.heap ∧ va_K (dC, dI) vwCl [(cI, .int), (cS, .short)] U ∧ va_D (fun _ => True) [(oM, .inr (12, [.ref mT, .int 0, .ref mS, .ref mX, .int 0, .int 0, .ref mL, .ref mB, .ref mD, .ref m1, .ref m2, .int 0, .ref mR, .int 0, .ref x1, .ref x2, .ref x3, .int 0, .ref mH, .int 0, .int 0, .int 0, .int 0, .int (-1), .int (-1), .int 0, .ref mY, .int 0, .ref mE, .int 0, .int 0, .ref mW, .int 0, .ref mO, .int 0, .ref y1, .ref y2, .ref y3, .ref y4, .ref mZ])), (mL, .inl (cI, 512, .inl (fun _ => (-1))))])) (va_Qi (fun (r : Int32) (_ : Unit) => r = g_cc cd v) (fun _ t => va_P (dC, dI) vwCl [(oM, .inr (12, [.ref mT, .int 0, .ref mS, .ref mX, .int 0, .int 0, .ref mL, .ref mB, .ref mD, .ref m1, .ref m2, .int 0, .ref mR, .int 0, .ref x1, .ref x2, .ref x3, .int 0, .ref mH, .int 0, .int 0, .int 0, .int 0, .int (-1), .int (-1), .int 0, .ref mY, .int 0, .ref mE, .int 0, .int 0, .ref mW, .int 0, .ref mO, .int 0, .ref y1, .ref y2, .ref y3, .ref y4, .ref mZ])), (mL, .inl (cI, 512, .inl (fun _ => (-1))))] t.heap ∧ va_D (va_A [(oM, .inr (12, [.ref mT, .int 0, .ref mS, .ref mX, .int 0, .int 0, .ref mL, .ref mB, .ref mD, .ref m1, .ref m2, .int 0, .ref mR, .int 0, .ref x1, .ref x2, .ref x3, .int 0, .ref mH, .int 0, .int 0, .int 0, .int 0, .int (-1), .int (-1), .int 0, .ref mY, .int 0, .ref mE, .int 0, .int 0, .ref mW, .int 0, .ref mO, .int 0, .ref y1, .ref y2, .ref y3, .ref y4, .ref mZ])), (mL, .inl (cI, 512, .inl (fun _ => (-1))))] sz) [(oM, .inr (12, [.ref mT, .int 0, .ref mS, .ref mX, .int 0, .int 0, .ref mL, .ref mB, .ref mD, .ref m1, .ref m2, .int 0, .ref mR, .int 0, .ref x1, .ref x2, .ref x3, .int 0, .ref mH, .int 0, .int 0, .int 0, .int 0, .int (-1), .int (-1), .int 0, .ref mY, .int 0, .ref mE, .int 0, .int 0, .ref mW, .int 0, .ref mO, .int 0, .ref y1, .ref y2, .ref y3, .ref y4, .ref mZ])), (mL, .inl (cI, 512, .inl (fun _ => (-1))))]) (va_A [(oM, .inr (12, [.ref mT, .int 0, .ref mS, .ref mX, .int 0, .int 0, .ref mL, .ref mB, .ref mD, .ref m1, .ref m2, .int 0, .ref mR, .int 0, .ref x1, .ref x2, .ref x3, .int 0, .ref mH, .int 0, .int 0, .int 0, .int 0, .int (-1), .int (-1), .int 0, .ref mY, .int 0, .ref mE, .int 0, .int 0, .ref mW, .int 0, .ref mO, .int 0, .ref y1, .ref y2, .ref y3, .ref y4, .ref mZ])), (mL, .inl (cI, 512, .inl (fun _ => (-1))))] sz)) 0 0 (va_A [(oM, .inr (12, [.ref mT, .int 0, .ref mS, .ref mX, .int 0, .int 0, .ref mL, .ref mB, .ref mD, .ref m1, .ref m2, .int 0, .ref mR, .int 0, .ref x1, .ref x2, .ref x3, .int 0, .ref mH, .int 0, .int 0, .int 0, .int 0, .int (-1), .int (-1), .int 0, .ref mY, .int 0, .ref mE, .int 0, .int 0, .ref mW, .int 0, .ref mO, .int 0, .ref y1, .ref y2, .ref y3, .ref y4, .ref mZ])), (mL, .inl (cI, 512, .inl (fun _ => (-1))))] sz) := by
  rcases hcd with rfl | rfl | rfl | rfl | rfl | rfl
  · exact m_X12_canCome_0 l dC dI cI cS sz oM mT mS mX mL mB mD m1 m2 mR x1 x2 x3 mH mY mE mW mO y1 y2 y3 y4 mZ v i hv hi
  · exact m_X12_canCome_1 l dC dI cI cS sz oM mT mS mX mL mB mD m1 m2 mR x1 x2 x3 mH mY mE mW mO y1 y2 y3 y4 mZ v i hv hi
  · exact m_X12_canCome_2 l dC dI cI cS sz oM mT mS mX mL mB mD m1 m2 mR x1 x2 x3 mH mY mE mW mO y1 y2 y3 y4 mZ v i hv hi
  · exact m_X12_canCome_3 l dC dI cI cS sz oM mT mS mX mL mB mD m1 m2 mR x1 x2 x3 mH mY mE mW mO y1 y2 y3 y4 mZ v i hv hi
  · exact m_X12_canCome_4 l dC dI cI cS sz oM mT mS mX mL mB mD m1 m2 mR x1 x2 x3 mH mY mE mW mO y1 y2 y3 y4 mZ v i hv hi
  · exact m_X12_canCome_5 l dC dI cI cS sz oM mT mS mX mL mB mD m1 m2 mR x1 x2 x3 mH mY mE mW mO y1 y2 y3 y4 mZ v i hv hi

set_option maxHeartbeats 4000000 in
set_option maxRecDepth 100000 in
theorem y_safe_0 (l : Launch) (dC : Nat → ClassId) (dI : Nat → Nat → Nat) (cI cS : ClassId) (sz : Nat) (oM : Nat) (mT : Nat) (mS : Nat) (mX : Nat) (mL : Nat) (mB : Nat) (mD : Nat) (m1 : Nat) (m2 : Nat) (mR : Nat) (x1 : Nat) (x2 : Nat) (x3 : Nat) (mH : Nat) (mY : Nat) (mE : Nat) (mW : Nat) (mO : Nat) (y1 : Nat) (y2 : Nat) (y3 : Nat) (y4 : Nat) (mZ : Nat) (a : Int32)  : Met l yX12_safe wsX12_safe ({ frames := 1, cells := 0, slots := 0, locals := 22 } : Room) (va_Pc [.ref oM, .int a, .int 0] (fun U => U.heap.size = sz ∧ va_P (dC, dI) vwCl [(oM, .inr (12, [.ref mT, .int 0, .ref mS, .ref mX, .int 0, .int 0, .ref mL, .ref mB, .ref mD, .ref m1, .ref m2, .int 0, .ref mR, .int 0, .ref x1, .ref x2, .ref x3, .int 0, .ref mH, .int 0, .int 0, .int 0, .int 0, .int (-1), .int (-1), .int 0, .ref mY, .int 0, .ref mE, .int 0, .int 0, .ref mW, .int 0, .ref mO, .int 0, .ref y1, .ref y2, .ref y3, .ref y4, .ref mZ])), (mL, .inl (cI, 512, .inl (fun _ => (-1))))] U.heap ∧ va_K (dC, dI) vwCl [(cI, .int), (cS, .short)] U ∧ va_D (fun _ => True) [(oM, .inr (12, [.ref mT, .int 0, .ref mS, .ref mX, .int 0, .int 0, .ref mL, .ref mB, .ref mD, .ref m1, .ref m2, .int 0, .ref mR, .int 0, .ref x1, .ref x2, .ref x3, .int 0, .ref mH, .int 0, .int 0, .int 0, .int 0, .int (-1), .int (-1), .int 0, .ref mY, .int 0, .ref mE, .int 0, .int 0, .ref mW, .int 0, .ref mO, .int 0, .ref y1, .ref y2, .ref y3, .ref y4, .ref mZ])), (mL, .inl (cI, 512, .inl (fun _ => (-1))))])) (va_Qi (fun (r : Int32) (_ : Unit) => r = g_safe a 0) (fun _ _ => True) (va_A [(oM, .inr (12, [.ref mT, .int 0, .ref mS, .ref mX, .int 0, .int 0, .ref mL, .ref mB, .ref mD, .ref m1, .ref m2, .int 0, .ref mR, .int 0, .ref x1, .ref x2, .ref x3, .int 0, .ref mH, .int 0, .int 0, .int 0, .int 0, .int (-1), .int (-1), .int 0, .ref mY, .int 0, .ref mE, .int 0, .int 0, .ref mW, .int 0, .ref mO, .int 0, .ref y1, .ref y2, .ref y3, .ref y4, .ref mZ])), (mL, .inl (cI, 512, .inl (fun _ => (-1))))] sz)) 0 0 (va_A [(oM, .inr (12, [.ref mT, .int 0, .ref mS, .ref mX, .int 0, .int 0, .ref mL, .ref mB, .ref mD, .ref m1, .ref m2, .int 0, .ref mR, .int 0, .ref x1, .ref x2, .ref x3, .int 0, .ref mH, .int 0, .int 0, .int 0, .int 0, .int (-1), .int (-1), .int 0, .ref mY, .int 0, .ref mE, .int 0, .int 0, .ref mW, .int 0, .ref mO, .int 0, .ref y1, .ref y2, .ref y3, .ref y4, .ref mZ])), (mL, .inl (cI, 512, .inl (fun _ => (-1))))] sz) := by
  refine Met.ofW (cc := cX12_safe) (maxL := 5) (ret := (some .int)) (by decide) rfl ?_
  intro p e s m args below meth c s₁ B hml hv
  obtain ⟨rfl, hsz, hP, hK, hD0⟩ := hv
  have hx := B.exec
  have hb := B.bytes
  have hr := B.returns
  have hts := atoms_spec (ws := wsX12_safe) B.pre
  have hown : s.vm.findClass RX12 = some m.cls := findClass_of_methodNamed B.named
  have hlocks := B.notSynchronized
  have in_X12 : ∀ w ∈ wsX120, w ∈ wsX12_safe := fun _ h => List.mem_cons_of_mem _ (List.mem_append_right _ (h))
  subst hsz
  have hD := hD0.self (sz := s.heap.size)
  generalize hAe : va_A [(oM, .inr (12, [.ref mT, .int 0, .ref mS, .ref mX, .int 0, .int 0, .ref mL, .ref mB, .ref mD, .ref m1, .ref m2, .int 0, .ref mR, .int 0, .ref x1, .ref x2, .ref x3, .int 0, .ref mH, .int 0, .int 0, .int 0, .int 0, .int (-1), .int (-1), .int 0, .ref mY, .int 0, .ref mE, .int 0, .int 0, .ref mW, .int 0, .ref mO, .int 0, .ref y1, .ref y2, .ref y3, .ref y4, .ref mZ])), (mL, .inl (cI, 512, .inl (fun _ => (-1))))] s.heap.size = A at hD ⊢
  have hA : ∀ q : Nat, s.heap.size ≤ q → A q := fun q h => by rw [← hAe]; exact Or.inr h
  have hS : va_S A s.heap s.heap [] := va_S.rf
  have hP : va_P (dC, dI) vwCl [(oM, .inr (12, [.ref mT, .int 0, .ref mS, .ref mX, .int 0, .int 0, .ref mL, .ref mB, .ref mD, .ref m1, .ref m2, .int 0, .ref mR, .int 0, .ref x1, .ref x2, .ref x3, .int 0, .ref mH, .int 0, .int 0, .int 0, .int 0, .int (-1), .int (-1), .int 0, .ref mY, .int 0, .ref mE, .int 0, .int 0, .ref mW, .int 0, .ref mO, .int 0, .ref y1, .ref y2, .ref y3, .ref y4, .ref mZ])), (mL, .inl (cI, 512, .inl (fun _ => (-1))))] s.heap := hP
  have hl := lv_entry ([.ref oM, .int a, .int 0]) (n := 5) (Nat.le_of_ble_eq_true rfl)
  rw [lg_entry_eq]
  generalize (lg_sl ([.ref oM, .int a, .int 0]) ++ List.replicate (5 - (lg_sl ([.ref oM, .int a, .int 0])).length) Slot.unset).toArray = ls at hl ⊢
  have hl : lv_has ls 5 [(0, .ref oM), (1, .int a), (2, .int 0)] := hl
  refine lv_aload_n hx hb dX12_safe_0 rfl (lv_at hl 0 rfl) ?_
  refine lv_iconst (v := 0) hx hb dX12_safe_1 (by decide) ?_
  refine va_put (D := (dC, dI)) (ci := 12) (v := .int 0) (ty := .int) (C := RX12) (T := TX12) (N := 40) hx hb hts in_X12 tyX12 tyX12_ok nmX12 hown hK hP hD hS 0 rfl rfl 25 (by decide) (hts (.fieldLink RX12 85 "TextMenderModel" "thrown" "I") (List.mem_of_getElem? (i := 1) rfl)) (fun _ h9 => h9) rfl (by decide +kernel) rfl rfl (Nat.le_of_ble_eq_true rfl) dX12_safe_2 (fun H locs hP hD hS => ?_)
  have hP : va_P (dC, dI) vwCl [(oM, .inr (12, [.ref mT, .int 0, .ref mS, .ref mX, .int 0, .int 0, .ref mL, .ref mB, .ref mD, .ref m1, .ref m2, .int 0, .ref mR, .int 0, .ref x1, .ref x2, .ref x3, .int 0, .ref mH, .int 0, .int 0, .int 0, .int 0, .int (-1), .int (-1), .int 0, .ref mY, .int 0, .ref mE, .int 0, .int 0, .ref mW, .int 0, .ref mO, .int 0, .ref y1, .ref y2, .ref y3, .ref y4, .ref mZ])), (mL, .inl (cI, 512, .inl (fun _ => (-1))))] H := hP
  have hD : va_D A [(oM, .inr (12, [.ref mT, .int 0, .ref mS, .ref mX, .int 0, .int 0, .ref mL, .ref mB, .ref mD, .ref m1, .ref m2, .int 0, .ref mR, .int 0, .ref x1, .ref x2, .ref x3, .int 0, .ref mH, .int 0, .int 0, .int 0, .int 0, .int (-1), .int (-1), .int 0, .ref mY, .int 0, .ref mE, .int 0, .int 0, .ref mW, .int 0, .ref mO, .int 0, .ref y1, .ref y2, .ref y3, .ref y4, .ref mZ])), (mL, .inl (cI, 512, .inl (fun _ => (-1))))] := hD
  refine lv_aload_n hx hb dX12_safe_5 rfl (lv_at hl 0 rfl) ?_
  refine lv_iconst (v := (-1)) hx hb dX12_safe_6 (by decide) ?_
  refine va_put (D := (dC, dI)) (ci := 12) (v := .int (-1)) (ty := .int) (C := RX12) (T := TX12) (N := 40) hx hb hts in_X12 tyX12 tyX12_ok nmX12 hown hK hP hD hS 0 rfl rfl 24 (by decide) (hts (.fieldLink RX12 55 "TextMenderModel" "where" "I") (List.mem_of_getElem? (i := 2) rfl)) (fun _ h9 => h9) rfl (by decide +kernel) rfl rfl (Nat.le_of_ble_eq_true rfl) dX12_safe_7 (fun H locs hP hD hS => ?_)
  have hP : va_P (dC, dI) vwCl [(oM, .inr (12, [.ref mT, .int 0, .ref mS, .ref mX, .int 0, .int 0, .ref mL, .ref mB, .ref mD, .ref m1, .ref m2, .int 0, .ref mR, .int 0, .ref x1, .ref x2, .ref x3, .int 0, .ref mH, .int 0, .int 0, .int 0, .int 0, .int (-1), .int (-1), .int 0, .ref mY, .int 0, .ref mE, .int 0, .int 0, .ref mW, .int 0, .ref mO, .int 0, .ref y1, .ref y2, .ref y3, .ref y4, .ref mZ])), (mL, .inl (cI, 512, .inl (fun _ => (-1))))] H := hP
  have hD : va_D A [(oM, .inr (12, [.ref mT, .int 0, .ref mS, .ref mX, .int 0, .int 0, .ref mL, .ref mB, .ref mD, .ref m1, .ref m2, .int 0, .ref mR, .int 0, .ref x1, .ref x2, .ref x3, .int 0, .ref mH, .int 0, .int 0, .int 0, .int 0, .int (-1), .int (-1), .int 0, .ref mY, .int 0, .ref mE, .int 0, .int 0, .ref mW, .int 0, .ref mO, .int 0, .ref y1, .ref y2, .ref y3, .ref y4, .ref mZ])), (mL, .inl (cI, 512, .inl (fun _ => (-1))))] := hD
  refine lv_iload_n hx hb dX12_safe_10 rfl (lv_at hl 1 rfl) ?_
  have hPc := hP.sub (ws' := []) [] rfl
  have hDc := hD.sub (ws' := []) [] (by decide) rfl
  have hFc := va_free (wc := []) hD hS hA [] rfl
  refine va_calli (va_runS (As := [.int a]) (rest := []) ⟨hx, hb, hml, hown, hts⟩ (m_X12_isCode l dC dI cI cS H.size a ) (va_cwS 1 hts gX12_safe_X12_isCode rfl rfl rfl (by decide +kernel) ⟨Nat.le_of_ble_eq_true rfl, Nat.le_of_ble_eq_true rfl⟩) ⟨fun a U g mk q => by obtain ⟨q0, q1, qP, qK, qD⟩ := q; exact ⟨q0, q1, qP, va_K.moved (u := U) (U := U.calling g mk a) (Vm.Alike.refl U.vm) qK, qD⟩, fun U hU hW => ⟨rfl, by rw [hU], by rw [hU]; exact hPc, va_K.moved hW.alike hK, hDc.weaken (fun _ _ _ _ => trivial)⟩⟩ rfl rfl hl.1 rfl (lv_room (Nat.le_of_ble_eq_true rfl)) dX12_safe_11 ⟨Nat.le_of_ble_eq_true rfl, Nat.le_of_ble_eq_true rfl⟩) hS (fun q _ h => hFc q h) hFc (fun r_1 u t H1 locs ht hvm hw hB hz1 hk1 hS => ?_)
  obtain ⟨hP1, hD1⟩ := hB
  rw [ht] at hP1
  obtain ⟨hP, hD⟩ := va_join (wr := [(oM, .inr (12, [.ref mT, .int 0, .ref mS, .ref mX, .int 0, .int 0, .ref mL, .ref mB, .ref mD, .ref m1, .ref m2, .int 0, .ref mR, .int 0, .ref x1, .ref x2, .ref x3, .int 0, .ref mH, .int 0, .int 0, .int 0, .int 0, .int (-1), .int (-1), .int 0, .ref mY, .int 0, .ref mE, .int 0, .int 0, .ref mW, .int 0, .ref mO, .int 0, .ref y1, .ref y2, .ref y3, .ref y4, .ref mZ])), (mL, .inl (cI, 512, .inl (fun _ => (-1))))]) (w1 := []) hP hD [] [0, 1] rfl rfl (by decide) (by decide) hk1 hFc hP1 hD1
  generalize H1 = H at hP hS ⊢
  have hP : va_P (dC, dI) vwCl [(oM, .inr (12, [.ref mT, .int 0, .ref mS, .ref mX, .int 0, .int 0, .ref mL, .ref mB, .ref mD, .ref m1, .ref m2, .int 0, .ref mR, .int 0, .ref x1, .ref x2, .ref x3, .int 0, .ref mH, .int 0, .int 0, .int 0, .int 0, .int (-1), .int (-1), .int 0, .ref mY, .int 0, .ref mE, .int 0, .int 0, .ref mW, .int 0, .ref mO, .int 0, .ref y1, .ref y2, .ref y3, .ref y4, .ref mZ])), (mL, .inl (cI, 512, .inl (fun _ => (-1))))] H := hP
  have hD : va_D A [(oM, .inr (12, [.ref mT, .int 0, .ref mS, .ref mX, .int 0, .int 0, .ref mL, .ref mB, .ref mD, .ref m1, .ref m2, .int 0, .ref mR, .int 0, .ref x1, .ref x2, .ref x3, .int 0, .ref mH, .int 0, .int 0, .int 0, .int 0, .int (-1), .int (-1), .int 0, .ref mY, .int 0, .ref mE, .int 0, .int 0, .ref mW, .int 0, .ref mO, .int 0, .ref y1, .ref y2, .ref y3, .ref y4, .ref mZ])), (mL, .inl (cI, 512, .inl (fun _ => (-1))))] := hD
  rw [hw]
  refine lv_if_eq (tgt := 24) hx hb dX12_safe_14 (by decide) (fun c_2 => ?_) (fun c_2 => ?_)
  · refine lv_iconst (v := (-1)) hx hb dX12_safe_24 (by decide) ?_
    exact W.iret (v := (-1)) hx hb hr (fun t ht hW => ⟨⟨(-1), (), rfl, by rw [g_safe, if_pos c_2], trivial⟩, hS.F ht⟩) (hS.2.2) dX12_safe_25
  · refine lv_iload_n hx hb dX12_safe_17 rfl (lv_at hl 2 rfl) ?_
    have hPc := hP.sub (ws' := []) [] rfl
    have hDc := hD.sub (ws' := []) [] (by decide) rfl
    have hFc := va_free (wc := []) hD hS hA [] rfl
    refine va_calli (va_runS (As := [.int 0]) (rest := []) ⟨hx, hb, hml, hown, hts⟩ (m_X12_isCode l dC dI cI cS H.size 0 ) (va_cwS 1 hts gX12_safe_X12_isCode rfl rfl rfl (by decide +kernel) ⟨Nat.le_of_ble_eq_true rfl, Nat.le_of_ble_eq_true rfl⟩) ⟨fun a U g mk q => by obtain ⟨q0, q1, qP, qK, qD⟩ := q; exact ⟨q0, q1, qP, va_K.moved (u := U) (U := U.calling g mk a) (Vm.Alike.refl U.vm) qK, qD⟩, fun U hU hW => ⟨rfl, by rw [hU], by rw [hU]; exact hPc, va_K.moved hW.alike hK, hDc.weaken (fun _ _ _ _ => trivial)⟩⟩ rfl rfl hl.1 rfl (lv_room (Nat.le_of_ble_eq_true rfl)) dX12_safe_18 ⟨Nat.le_of_ble_eq_true rfl, Nat.le_of_ble_eq_true rfl⟩) hS (fun q _ h => hFc q h) hFc (fun r_3 u t H1 locs ht hvm hw hB hz1 hk1 hS => ?_)
    obtain ⟨hP1, hD1⟩ := hB
    rw [ht] at hP1
    obtain ⟨hP, hD⟩ := va_join (wr := [(oM, .inr (12, [.ref mT, .int 0, .ref mS, .ref mX, .int 0, .int 0, .ref mL, .ref mB, .ref mD, .ref m1, .ref m2, .int 0, .ref mR, .int 0, .ref x1, .ref x2, .ref x3, .int 0, .ref mH, .int 0, .int 0, .int 0, .int 0, .int (-1), .int (-1), .int 0, .ref mY, .int 0, .ref mE, .int 0, .int 0, .ref mW, .int 0, .ref mO, .int 0, .ref y1, .ref y2, .ref y3, .ref y4, .ref mZ])), (mL, .inl (cI, 512, .inl (fun _ => (-1))))]) (w1 := []) hP hD [] [0, 1] rfl rfl (by decide) (by decide) hk1 hFc hP1 hD1
    generalize H1 = H at hP hS ⊢
    have hP : va_P (dC, dI) vwCl [(oM, .inr (12, [.ref mT, .int 0, .ref mS, .ref mX, .int 0, .int 0, .ref mL, .ref mB, .ref mD, .ref m1, .ref m2, .int 0, .ref mR, .int 0, .ref x1, .ref x2, .ref x3, .int 0, .ref mH, .int 0, .int 0, .int 0, .int 0, .int (-1), .int (-1), .int 0, .ref mY, .int 0, .ref mE, .int 0, .int 0, .ref mW, .int 0, .ref mO, .int 0, .ref y1, .ref y2, .ref y3, .ref y4, .ref mZ])), (mL, .inl (cI, 512, .inl (fun _ => (-1))))] H := hP
    have hD : va_D A [(oM, .inr (12, [.ref mT, .int 0, .ref mS, .ref mX, .int 0, .int 0, .ref mL, .ref mB, .ref mD, .ref m1, .ref m2, .int 0, .ref mR, .int 0, .ref x1, .ref x2, .ref x3, .int 0, .ref mH, .int 0, .int 0, .int 0, .int 0, .int (-1), .int (-1), .int 0, .ref mY, .int 0, .ref mE, .int 0, .int 0, .ref mW, .int 0, .ref mO, .int 0, .ref y1, .ref y2, .ref y3, .ref y4, .ref mZ])), (mL, .inl (cI, 512, .inl (fun _ => (-1))))] := hD
    rw [hw]
    refine lv_if_ne (tgt := 26) hx hb dX12_safe_21 (by decide) (fun c_4 => ?_) (fun c_4 => absurd c_4 (by decide))
    refine lv_iload_n hx hb dX12_safe_26 rfl (lv_at hl 1 rfl) ?_
    refine lv_iload_n hx hb dX12_safe_27 rfl (lv_at hl 2 rfl) ?_
    refine lv_icmp_ne (tgt := 33) hx hb dX12_safe_28 (by decide) (fun c_5 => ?_) (fun c_5 => ?_)
    · refine lv_iconst (v := 0) hx hb dX12_safe_33 (by decide) ?_
      refine lv_istore_n (lv' := [(3, .int 0), (0, .ref oM), (1, .int a), (2, .int 0)]) hx hb dX12_safe_34 rfl hl (by decide) rfl (fun ls hl => ?_)
      have LOOP_35 : ∀ (k_35 i_35 : Nat) (xc_35 : Int32)  (H : Heap) (locs : List Loc) (ls : Array Slot), i_35 + k_35 = 256 → xc_35 = nI i_35 →  (∀ j, j < i_35 → g_ok a 0 (nI j) = true) → va_P (dC, dI) vwCl [(oM, .inr (12, [.ref mT, .int 0, .ref mS, .ref mX, .int 0, .int 0, .ref mL, .ref mB, .ref mD, .ref m1, .ref m2, .int 0, .ref mR, .int 0, .ref x1, .ref x2, .ref x3, .int 0, .ref mH, .int 0, .int 0, .int 0, .int 0, .int (-1), .int (-1), .int 0, .ref mY, .int 0, .ref mE, .int 0, .int 0, .ref mW, .int 0, .ref mO, .int 0, .ref y1, .ref y2, .ref y3, .ref y4, .ref mZ])), (mL, .inl (cI, 512, .inl (fun _ => (-1))))] H → va_D A [(oM, .inr (12, [.ref mT, .int 0, .ref mS, .ref mX, .int 0, .int 0, .ref mL, .ref mB, .ref mD, .ref m1, .ref m2, .int 0, .ref mR, .int 0, .ref x1, .ref x2, .ref x3, .int 0, .ref mH, .int 0, .int 0, .int 0, .int 0, .int (-1), .int (-1), .int 0, .ref mY, .int 0, .ref mE, .int 0, .int 0, .ref mW, .int 0, .ref mO, .int 0, .ref y1, .ref y2, .ref y3, .ref y4, .ref mZ])), (mL, .inl (cI, 512, .inl (fun _ => (-1))))] → va_S A s.heap H locs → lv_has ls 5 [(3, .int xc_35), (0, .ref oM), (1, .int a), (2, .int 0)] → W p l e (headSpec wsX12_safe ({ frames := 1, cells := 0, slots := 0, locals := 22 } : Room)).room s m ([.ref oM, .int a, .int 0] : List Value).toArray below meth c H locs 0 0 (MQ below (va_Qi (fun (r : Int32) (_ : Unit) => r = g_safe a 0) (fun _ _ => True) A) ([.ref oM, .int a, .int 0] : List Value).toArray s 0 0 A) (F0 m 35 ls []) := by
        intro k_35
        induction k_35 with
        | zero =>
          intro i_35 xc_35  H locs ls hi_35 hxc_35  hok hP hD hS hl
          have hi2_35 : i_35 = 256 := by omega
          refine lv_iload_n hx hb dX12_safe_35 rfl (lv_at hl 0 rfl) ?_
          refine lv_sipush (v := 256) hx hb dX12_safe_36 (by decide) ?_
          refine lv_icmp_ge (tgt := 136) hx hb dX12_safe_39 (by decide) (fun c_6 => ?_) (fun c_6 => absurd (by rw [hxc_35]; exact nI_le (a := 256) (b := i_35) (by omega) (by rw [hi2_35]; exact (by decide))) c_6)
          refine lv_iconst (v := 1) hx hb dX12_safe_136 (by decide) ?_
          exact W.iret (v := 1) hx hb hr (fun t ht hW => ⟨⟨1, (), rfl, by rw [g_safe, if_neg c_2, if_neg (show ¬ g_code 0 = 0 by decide), g_all, if_neg c_5, if_pos (p_all (fun j hj => hok j (by omega)))], trivial⟩, hS.F ht⟩) (hS.2.2) dX12_safe_137
        | succ k_35 ih_35 =>
          intro i_35 xc_35  H locs ls hi_35 hxc_35  hok hP hD hS hl
          refine lv_iload_n hx hb dX12_safe_35 rfl (lv_at hl 0 rfl) ?_
          refine lv_sipush (v := 256) hx hb dX12_safe_36 (by decide) ?_
          refine lv_icmp_ge (tgt := 136) hx hb dX12_safe_39 (by decide) (fun c_7 => absurd c_7 (by rw [hxc_35]; exact nI_ge (a := i_35) (b := 256) (by omega) (by decide))) (fun c_7 => ?_)
          refine lv_aload_n hx hb dX12_safe_42 rfl (lv_at hl 1 rfl) ?_
          refine lv_iload_n hx hb dX12_safe_43 rfl (lv_at hl 2 rfl) ?_
          refine lv_iload_n hx hb dX12_safe_44 rfl (lv_at hl 0 rfl) ?_
          have hPc := hP.sub (ws' := [(oM, .inr (12, [.ref mT, .int 0, .ref mS, .ref mX, .int 0, .int 0, .ref mL, .ref mB, .ref mD, .ref m1, .ref m2, .int 0, .ref mR, .int 0, .ref x1, .ref x2, .ref x3, .int 0, .ref mH, .int 0, .int 0, .int 0, .int 0, .int (-1), .int (-1), .int 0, .ref mY, .int 0, .ref mE, .int 0, .int 0, .ref mW, .int 0, .ref mO, .int 0, .ref y1, .ref y2, .ref y3, .ref y4, .ref mZ])), (mL, .inl (cI, 512, .inl (fun _ => (-1))))]) [0, 1] rfl
          have hDc := hD.sub (ws' := [(oM, .inr (12, [.ref mT, .int 0, .ref mS, .ref mX, .int 0, .int 0, .ref mL, .ref mB, .ref mD, .ref m1, .ref m2, .int 0, .ref mR, .int 0, .ref x1, .ref x2, .ref x3, .int 0, .ref mH, .int 0, .int 0, .int 0, .int 0, .int (-1), .int (-1), .int 0, .ref mY, .int 0, .ref mE, .int 0, .int 0, .ref mW, .int 0, .ref mO, .int 0, .ref y1, .ref y2, .ref y3, .ref y4, .ref mZ])), (mL, .inl (cI, 512, .inl (fun _ => (-1))))]) [0, 1] (by decide) rfl
          have hFc := va_free (wc := [(oM, .inr (12, [.ref mT, .int 0, .ref mS, .ref mX, .int 0, .int 0, .ref mL, .ref mB, .ref mD, .ref m1, .ref m2, .int 0, .ref mR, .int 0, .ref x1, .ref x2, .ref x3, .int 0, .ref mH, .int 0, .int 0, .int 0, .int 0, .int (-1), .int (-1), .int 0, .ref mY, .int 0, .ref mE, .int 0, .int 0, .ref mW, .int 0, .ref mO, .int 0, .ref y1, .ref y2, .ref y3, .ref y4, .ref mZ])), (mL, .inl (cI, 512, .inl (fun _ => (-1))))]) hD hS hA [0, 1] rfl
          refine va_calli (va_runV (As := [.int a, .int xc_35]) (rest := []) ⟨hx, hb, hml, hown, hts⟩ (m_X12_canCome l dC dI cI cS H.size oM mT mS mX mL mB mD m1 m2 mR x1 x2 x3 mH mY mE mW mO y1 y2 y3 y4 mZ a xc_35 i_35 (p_code c_2) (hxc_35) (by omega)) (cwV 2 hts gX12_safe_X12_canCome rfl rfl rfl (by decide +kernel) ⟨Nat.le_of_ble_eq_true rfl, Nat.le_of_ble_eq_true rfl⟩) ⟨fun a U g mk q => by obtain ⟨q0, q1, qP, qK, qD⟩ := q; exact ⟨q0, q1, qP, va_K.moved (u := U) (U := U.calling g mk a) (Vm.Alike.refl U.vm) qK, qD⟩, va_recv hK hPc (ci := 12) (q0 := 0) rfl rfl, fun U hU hW => ⟨rfl, by rw [hU], by rw [hU]; exact hPc, va_K.moved hW.alike hK, hDc.weaken (fun _ _ _ _ => trivial)⟩⟩ rfl rfl hl.1 rfl (lv_room (Nat.le_of_ble_eq_true rfl)) dX12_safe_45 ⟨Nat.le_of_ble_eq_true rfl, Nat.le_of_ble_eq_true rfl⟩) hS (fun q _ h => hFc q h) hFc (fun r_8 u t H1 locs ht hvm hw hB hz1 hk1 hS => ?_)
          obtain ⟨hP1, hD1⟩ := hB
          rw [ht] at hP1
          obtain ⟨hP, hD⟩ := va_join (wr := []) (w1 := [(oM, .inr (12, [.ref mT, .int 0, .ref mS, .ref mX, .int 0, .int 0, .ref mL, .ref mB, .ref mD, .ref m1, .ref m2, .int 0, .ref mR, .int 0, .ref x1, .ref x2, .ref x3, .int 0, .ref mH, .int 0, .int 0, .int 0, .int 0, .int (-1), .int (-1), .int 0, .ref mY, .int 0, .ref mE, .int 0, .int 0, .ref mW, .int 0, .ref mO, .int 0, .ref y1, .ref y2, .ref y3, .ref y4, .ref mZ])), (mL, .inl (cI, 512, .inl (fun _ => (-1))))]) hP hD [0, 1] [] rfl rfl (by decide) (by decide) hk1 hFc hP1 hD1
          generalize H1 = H at hP hS ⊢
          have hP : va_P (dC, dI) vwCl [(oM, .inr (12, [.ref mT, .int 0, .ref mS, .ref mX, .int 0, .int 0, .ref mL, .ref mB, .ref mD, .ref m1, .ref m2, .int 0, .ref mR, .int 0, .ref x1, .ref x2, .ref x3, .int 0, .ref mH, .int 0, .int 0, .int 0, .int 0, .int (-1), .int (-1), .int 0, .ref mY, .int 0, .ref mE, .int 0, .int 0, .ref mW, .int 0, .ref mO, .int 0, .ref y1, .ref y2, .ref y3, .ref y4, .ref mZ])), (mL, .inl (cI, 512, .inl (fun _ => (-1))))] H := hP
          have hD : va_D A [(oM, .inr (12, [.ref mT, .int 0, .ref mS, .ref mX, .int 0, .int 0, .ref mL, .ref mB, .ref mD, .ref m1, .ref m2, .int 0, .ref mR, .int 0, .ref x1, .ref x2, .ref x3, .int 0, .ref mH, .int 0, .int 0, .int 0, .int 0, .int (-1), .int (-1), .int 0, .ref mY, .int 0, .ref mE, .int 0, .int 0, .ref mW, .int 0, .ref mO, .int 0, .ref y1, .ref y2, .ref y3, .ref y4, .ref mZ])), (mL, .inl (cI, 512, .inl (fun _ => (-1))))] := hD
          rw [hw]
          refine lv_if_ne (tgt := 54) hx hb dX12_safe_48 (by decide) (fun c_9 => ?_) (fun c_9 => ?_)
          · refine lv_iload_n hx hb dX12_safe_54 rfl (lv_at hl 3 rfl) ?_
            refine lv_iconst (v := 1) hx hb dX12_safe_55 (by decide) ?_
            refine lv_icmp_eq (tgt := 116) hx hb dX12_safe_56 (by decide) (fun c_10 => absurd c_10 (by decide)) (fun c_10 => ?_)
            refine lv_iload_n hx hb dX12_safe_59 rfl (lv_at hl 3 rfl) ?_
            refine lv_if_eq (tgt := 68) hx hb dX12_safe_60 (by decide) (fun c_11 => ?_) (fun c_11 => absurd (by decide) c_11)
            refine lv_iload_n hx hb dX12_safe_68 rfl (lv_at hl 0 rfl) ?_
            refine lv_sipush (v := 128) hx hb dX12_safe_69 (by decide) ?_
            refine lv_icmp_lt (tgt := 116) hx hb dX12_safe_72 (by decide) (fun c_12 => ?_) (fun c_12 => ?_)
            · refine lv_iconst (v := 1) hx hb dX12_safe_116 (by decide) ?_
              refine lv_goto (tgt := 121) hx hb dX12_safe_117 (by decide) ?_
              refine lv_istore (lv' := [(4, .int 1), (3, .int xc_35), (0, .ref oM), (1, .int a), (2, .int 0)]) hx hb dX12_safe_121 hl (by decide) rfl (fun ls hl => ?_)
              refine lv_iload hx hb dX12_safe_123 (lv_at hl 0 rfl) ?_
              refine lv_if_ne (tgt := 130) hx hb dX12_safe_125 (by decide) (fun c_13 => ?_) (fun c_13 => absurd c_13 (by decide))
              obtain ⟨x_14, ex_14⟩ : ∃ y : Int32, y = xc_35 + 1 := ⟨_, rfl⟩
              refine lv_iinc (v := x_14) (lv' := [(3, .int x_14), (4, .int 1), (0, .ref oM), (1, .int a), (2, .int 0)]) hx hb dX12_safe_130 hl (k := 1) rfl (by rw [ex_14]; rfl) (by decide) rfl (fun ls hl => ?_)
              refine lv_goto (tgt := 35) hx hb dX12_safe_133 (by decide) ?_
              exact ih_35 (i_35 + 1) x_14  _ _ _ (by omega) (by rw [ex_14, hxc_35]; exact nI_1 i_35)  (lt_s hok (by rw [← hxc_35]; exact gok_yes (by simp [gis_0, c_2, c_5, c_12]))) hP hD hS (lv_sub hl [0, 2, 3, 4] rfl)
            · refine lv_iload_n hx hb dX12_safe_75 rfl (lv_at hl 3 rfl) ?_
              refine lv_iconst (v := 3) hx hb dX12_safe_76 (by decide) ?_
              refine lv_icmp_ne (tgt := 93) hx hb dX12_safe_77 (by decide) (fun c_15 => ?_) (fun c_15 => absurd c_15 (by decide))
              refine lv_iload_n hx hb dX12_safe_93 rfl (lv_at hl 3 rfl) ?_
              refine lv_iconst (v := 3) hx hb dX12_safe_94 (by decide) ?_
              refine lv_icmp_le (tgt := 120) hx hb dX12_safe_95 (by decide) (fun c_16 => ?_) (fun c_16 => absurd (by decide) c_16)
              refine lv_iconst (v := 0) hx hb dX12_safe_120 (by decide) ?_
              refine lv_istore (lv' := [(4, .int 0), (3, .int xc_35), (0, .ref oM), (1, .int a), (2, .int 0)]) hx hb dX12_safe_121 hl (by decide) rfl (fun ls hl => ?_)
              refine lv_iload hx hb dX12_safe_123 (lv_at hl 0 rfl) ?_
              refine lv_if_ne (tgt := 130) hx hb dX12_safe_125 (by decide) (fun c_17 => absurd (by decide) c_17) (fun c_17 => ?_)
              refine lv_iconst (v := 0) hx hb dX12_safe_128 (by decide) ?_
              exact W.iret (v := 0) hx hb hr (fun t ht hW => ⟨⟨0, (), rfl, by rw [g_safe, if_neg c_2, if_neg (show ¬ g_code 0 = 0 by decide), g_all, if_neg c_5, if_neg (p_notall (i := i_35) (by omega) (by rw [← hxc_35]; exact gok_no c_9 (by simp [gis_0, c_2, c_5, c_12])))], trivial⟩, hS.F ht⟩) (hS.2.2) dX12_safe_129
          · refine lv_goto (tgt := 130) hx hb dX12_safe_51 (by decide) ?_
            obtain ⟨x_18, ex_18⟩ : ∃ y : Int32, y = xc_35 + 1 := ⟨_, rfl⟩
            refine lv_iinc (v := x_18) (lv' := [(3, .int x_18), (0, .ref oM), (1, .int a), (2, .int 0)]) hx hb dX12_safe_130 hl (k := 0) rfl (by rw [ex_18]; rfl) (by decide) rfl (fun ls hl => ?_)
            refine lv_goto (tgt := 35) hx hb dX12_safe_133 (by decide) ?_
            exact ih_35 (i_35 + 1) x_18  _ _ _ (by omega) (by rw [ex_18, hxc_35]; exact nI_1 i_35)  (lt_s hok (by rw [← hxc_35]; exact gok_skip c_9)) hP hD hS (lv_sub hl [0, 1, 2, 3] rfl)
      exact LOOP_35 256 0 0  _ _ _ (by omega) nI_0.symm  (fun j hj => absurd hj (Nat.not_lt_zero j)) hP hD hS (lv_sub hl [0, 1, 2, 3] rfl)
    · refine lv_iconst (v := 1) hx hb dX12_safe_31 (by decide) ?_
      exact W.iret (v := 1) hx hb hr (fun t ht hW => ⟨⟨1, (), rfl, by rw [g_safe, if_neg c_2, if_neg (show ¬ g_code 0 = 0 by decide), g_all, if_pos c_5], trivial⟩, hS.F ht⟩) (hS.2.2) dX12_safe_32

set_option maxHeartbeats 4000000 in
set_option maxRecDepth 100000 in
theorem y_safe_1 (l : Launch) (dC : Nat → ClassId) (dI : Nat → Nat → Nat) (cI cS : ClassId) (sz : Nat) (oM : Nat) (mT : Nat) (mS : Nat) (mX : Nat) (mL : Nat) (mB : Nat) (mD : Nat) (m1 : Nat) (m2 : Nat) (mR : Nat) (x1 : Nat) (x2 : Nat) (x3 : Nat) (mH : Nat) (mY : Nat) (mE : Nat) (mW : Nat) (mO : Nat) (y1 : Nat) (y2 : Nat) (y3 : Nat) (y4 : Nat) (mZ : Nat) (a : Int32)  : Met l yX12_safe wsX12_safe ({ frames := 1, cells := 0, slots := 0, locals := 22 } : Room) (va_Pc [.ref oM, .int a, .int 1] (fun U => U.heap.size = sz ∧ va_P (dC, dI) vwCl [(oM, .inr (12, [.ref mT, .int 0, .ref mS, .ref mX, .int 0, .int 0, .ref mL, .ref mB, .ref mD, .ref m1, .ref m2, .int 0, .ref mR, .int 0, .ref x1, .ref x2, .ref x3, .int 0, .ref mH, .int 0, .int 0, .int 0, .int 0, .int (-1), .int (-1), .int 0, .ref mY, .int 0, .ref mE, .int 0, .int 0, .ref mW, .int 0, .ref mO, .int 0, .ref y1, .ref y2, .ref y3, .ref y4, .ref mZ])), (mL, .inl (cI, 512, .inl (fun _ => (-1))))] U.heap ∧ va_K (dC, dI) vwCl [(cI, .int), (cS, .short)] U ∧ va_D (fun _ => True) [(oM, .inr (12, [.ref mT, .int 0, .ref mS, .ref mX, .int 0, .int 0, .ref mL, .ref mB, .ref mD, .ref m1, .ref m2, .int 0, .ref mR, .int 0, .ref x1, .ref x2, .ref x3, .int 0, .ref mH, .int 0, .int 0, .int 0, .int 0, .int (-1), .int (-1), .int 0, .ref mY, .int 0, .ref mE, .int 0, .int 0, .ref mW, .int 0, .ref mO, .int 0, .ref y1, .ref y2, .ref y3, .ref y4, .ref mZ])), (mL, .inl (cI, 512, .inl (fun _ => (-1))))])) (va_Qi (fun (r : Int32) (_ : Unit) => r = g_safe a 1) (fun _ _ => True) (va_A [(oM, .inr (12, [.ref mT, .int 0, .ref mS, .ref mX, .int 0, .int 0, .ref mL, .ref mB, .ref mD, .ref m1, .ref m2, .int 0, .ref mR, .int 0, .ref x1, .ref x2, .ref x3, .int 0, .ref mH, .int 0, .int 0, .int 0, .int 0, .int (-1), .int (-1), .int 0, .ref mY, .int 0, .ref mE, .int 0, .int 0, .ref mW, .int 0, .ref mO, .int 0, .ref y1, .ref y2, .ref y3, .ref y4, .ref mZ])), (mL, .inl (cI, 512, .inl (fun _ => (-1))))] sz)) 0 0 (va_A [(oM, .inr (12, [.ref mT, .int 0, .ref mS, .ref mX, .int 0, .int 0, .ref mL, .ref mB, .ref mD, .ref m1, .ref m2, .int 0, .ref mR, .int 0, .ref x1, .ref x2, .ref x3, .int 0, .ref mH, .int 0, .int 0, .int 0, .int 0, .int (-1), .int (-1), .int 0, .ref mY, .int 0, .ref mE, .int 0, .int 0, .ref mW, .int 0, .ref mO, .int 0, .ref y1, .ref y2, .ref y3, .ref y4, .ref mZ])), (mL, .inl (cI, 512, .inl (fun _ => (-1))))] sz) := by
  refine Met.ofW (cc := cX12_safe) (maxL := 5) (ret := (some .int)) (by decide) rfl ?_
  intro p e s m args below meth c s₁ B hml hv
  obtain ⟨rfl, hsz, hP, hK, hD0⟩ := hv
  have hx := B.exec
  have hb := B.bytes
  have hr := B.returns
  have hts := atoms_spec (ws := wsX12_safe) B.pre
  have hown : s.vm.findClass RX12 = some m.cls := findClass_of_methodNamed B.named
  have hlocks := B.notSynchronized
  have in_X12 : ∀ w ∈ wsX120, w ∈ wsX12_safe := fun _ h => List.mem_cons_of_mem _ (List.mem_append_right _ (h))
  subst hsz
  have hD := hD0.self (sz := s.heap.size)
  generalize hAe : va_A [(oM, .inr (12, [.ref mT, .int 0, .ref mS, .ref mX, .int 0, .int 0, .ref mL, .ref mB, .ref mD, .ref m1, .ref m2, .int 0, .ref mR, .int 0, .ref x1, .ref x2, .ref x3, .int 0, .ref mH, .int 0, .int 0, .int 0, .int 0, .int (-1), .int (-1), .int 0, .ref mY, .int 0, .ref mE, .int 0, .int 0, .ref mW, .int 0, .ref mO, .int 0, .ref y1, .ref y2, .ref y3, .ref y4, .ref mZ])), (mL, .inl (cI, 512, .inl (fun _ => (-1))))] s.heap.size = A at hD ⊢
  have hA : ∀ q : Nat, s.heap.size ≤ q → A q := fun q h => by rw [← hAe]; exact Or.inr h
  have hS : va_S A s.heap s.heap [] := va_S.rf
  have hP : va_P (dC, dI) vwCl [(oM, .inr (12, [.ref mT, .int 0, .ref mS, .ref mX, .int 0, .int 0, .ref mL, .ref mB, .ref mD, .ref m1, .ref m2, .int 0, .ref mR, .int 0, .ref x1, .ref x2, .ref x3, .int 0, .ref mH, .int 0, .int 0, .int 0, .int 0, .int (-1), .int (-1), .int 0, .ref mY, .int 0, .ref mE, .int 0, .int 0, .ref mW, .int 0, .ref mO, .int 0, .ref y1, .ref y2, .ref y3, .ref y4, .ref mZ])), (mL, .inl (cI, 512, .inl (fun _ => (-1))))] s.heap := hP
  have hl := lv_entry ([.ref oM, .int a, .int 1]) (n := 5) (Nat.le_of_ble_eq_true rfl)
  rw [lg_entry_eq]
  generalize (lg_sl ([.ref oM, .int a, .int 1]) ++ List.replicate (5 - (lg_sl ([.ref oM, .int a, .int 1])).length) Slot.unset).toArray = ls at hl ⊢
  have hl : lv_has ls 5 [(0, .ref oM), (1, .int a), (2, .int 1)] := hl
  refine lv_aload_n hx hb dX12_safe_0 rfl (lv_at hl 0 rfl) ?_
  refine lv_iconst (v := 0) hx hb dX12_safe_1 (by decide) ?_
  refine va_put (D := (dC, dI)) (ci := 12) (v := .int 0) (ty := .int) (C := RX12) (T := TX12) (N := 40) hx hb hts in_X12 tyX12 tyX12_ok nmX12 hown hK hP hD hS 0 rfl rfl 25 (by decide) (hts (.fieldLink RX12 85 "TextMenderModel" "thrown" "I") (List.mem_of_getElem? (i := 1) rfl)) (fun _ h9 => h9) rfl (by decide +kernel) rfl rfl (Nat.le_of_ble_eq_true rfl) dX12_safe_2 (fun H locs hP hD hS => ?_)
  have hP : va_P (dC, dI) vwCl [(oM, .inr (12, [.ref mT, .int 0, .ref mS, .ref mX, .int 0, .int 0, .ref mL, .ref mB, .ref mD, .ref m1, .ref m2, .int 0, .ref mR, .int 0, .ref x1, .ref x2, .ref x3, .int 0, .ref mH, .int 0, .int 0, .int 0, .int 0, .int (-1), .int (-1), .int 0, .ref mY, .int 0, .ref mE, .int 0, .int 0, .ref mW, .int 0, .ref mO, .int 0, .ref y1, .ref y2, .ref y3, .ref y4, .ref mZ])), (mL, .inl (cI, 512, .inl (fun _ => (-1))))] H := hP
  have hD : va_D A [(oM, .inr (12, [.ref mT, .int 0, .ref mS, .ref mX, .int 0, .int 0, .ref mL, .ref mB, .ref mD, .ref m1, .ref m2, .int 0, .ref mR, .int 0, .ref x1, .ref x2, .ref x3, .int 0, .ref mH, .int 0, .int 0, .int 0, .int 0, .int (-1), .int (-1), .int 0, .ref mY, .int 0, .ref mE, .int 0, .int 0, .ref mW, .int 0, .ref mO, .int 0, .ref y1, .ref y2, .ref y3, .ref y4, .ref mZ])), (mL, .inl (cI, 512, .inl (fun _ => (-1))))] := hD
  refine lv_aload_n hx hb dX12_safe_5 rfl (lv_at hl 0 rfl) ?_
  refine lv_iconst (v := (-1)) hx hb dX12_safe_6 (by decide) ?_
  refine va_put (D := (dC, dI)) (ci := 12) (v := .int (-1)) (ty := .int) (C := RX12) (T := TX12) (N := 40) hx hb hts in_X12 tyX12 tyX12_ok nmX12 hown hK hP hD hS 0 rfl rfl 24 (by decide) (hts (.fieldLink RX12 55 "TextMenderModel" "where" "I") (List.mem_of_getElem? (i := 2) rfl)) (fun _ h9 => h9) rfl (by decide +kernel) rfl rfl (Nat.le_of_ble_eq_true rfl) dX12_safe_7 (fun H locs hP hD hS => ?_)
  have hP : va_P (dC, dI) vwCl [(oM, .inr (12, [.ref mT, .int 0, .ref mS, .ref mX, .int 0, .int 0, .ref mL, .ref mB, .ref mD, .ref m1, .ref m2, .int 0, .ref mR, .int 0, .ref x1, .ref x2, .ref x3, .int 0, .ref mH, .int 0, .int 0, .int 0, .int 0, .int (-1), .int (-1), .int 0, .ref mY, .int 0, .ref mE, .int 0, .int 0, .ref mW, .int 0, .ref mO, .int 0, .ref y1, .ref y2, .ref y3, .ref y4, .ref mZ])), (mL, .inl (cI, 512, .inl (fun _ => (-1))))] H := hP
  have hD : va_D A [(oM, .inr (12, [.ref mT, .int 0, .ref mS, .ref mX, .int 0, .int 0, .ref mL, .ref mB, .ref mD, .ref m1, .ref m2, .int 0, .ref mR, .int 0, .ref x1, .ref x2, .ref x3, .int 0, .ref mH, .int 0, .int 0, .int 0, .int 0, .int (-1), .int (-1), .int 0, .ref mY, .int 0, .ref mE, .int 0, .int 0, .ref mW, .int 0, .ref mO, .int 0, .ref y1, .ref y2, .ref y3, .ref y4, .ref mZ])), (mL, .inl (cI, 512, .inl (fun _ => (-1))))] := hD
  refine lv_iload_n hx hb dX12_safe_10 rfl (lv_at hl 1 rfl) ?_
  have hPc := hP.sub (ws' := []) [] rfl
  have hDc := hD.sub (ws' := []) [] (by decide) rfl
  have hFc := va_free (wc := []) hD hS hA [] rfl
  refine va_calli (va_runS (As := [.int a]) (rest := []) ⟨hx, hb, hml, hown, hts⟩ (m_X12_isCode l dC dI cI cS H.size a ) (va_cwS 1 hts gX12_safe_X12_isCode rfl rfl rfl (by decide +kernel) ⟨Nat.le_of_ble_eq_true rfl, Nat.le_of_ble_eq_true rfl⟩) ⟨fun a U g mk q => by obtain ⟨q0, q1, qP, qK, qD⟩ := q; exact ⟨q0, q1, qP, va_K.moved (u := U) (U := U.calling g mk a) (Vm.Alike.refl U.vm) qK, qD⟩, fun U hU hW => ⟨rfl, by rw [hU], by rw [hU]; exact hPc, va_K.moved hW.alike hK, hDc.weaken (fun _ _ _ _ => trivial)⟩⟩ rfl rfl hl.1 rfl (lv_room (Nat.le_of_ble_eq_true rfl)) dX12_safe_11 ⟨Nat.le_of_ble_eq_true rfl, Nat.le_of_ble_eq_true rfl⟩) hS (fun q _ h => hFc q h) hFc (fun r_1 u t H1 locs ht hvm hw hB hz1 hk1 hS => ?_)
  obtain ⟨hP1, hD1⟩ := hB
  rw [ht] at hP1
  obtain ⟨hP, hD⟩ := va_join (wr := [(oM, .inr (12, [.ref mT, .int 0, .ref mS, .ref mX, .int 0, .int 0, .ref mL, .ref mB, .ref mD, .ref m1, .ref m2, .int 0, .ref mR, .int 0, .ref x1, .ref x2, .ref x3, .int 0, .ref mH, .int 0, .int 0, .int 0, .int 0, .int (-1), .int (-1), .int 0, .ref mY, .int 0, .ref mE, .int 0, .int 0, .ref mW, .int 0, .ref mO, .int 0, .ref y1, .ref y2, .ref y3, .ref y4, .ref mZ])), (mL, .inl (cI, 512, .inl (fun _ => (-1))))]) (w1 := []) hP hD [] [0, 1] rfl rfl (by decide) (by decide) hk1 hFc hP1 hD1
  generalize H1 = H at hP hS ⊢
  have hP : va_P (dC, dI) vwCl [(oM, .inr (12, [.ref mT, .int 0, .ref mS, .ref mX, .int 0, .int 0, .ref mL, .ref mB, .ref mD, .ref m1, .ref m2, .int 0, .ref mR, .int 0, .ref x1, .ref x2, .ref x3, .int 0, .ref mH, .int 0, .int 0, .int 0, .int 0, .int (-1), .int (-1), .int 0, .ref mY, .int 0, .ref mE, .int 0, .int 0, .ref mW, .int 0, .ref mO, .int 0, .ref y1, .ref y2, .ref y3, .ref y4, .ref mZ])), (mL, .inl (cI, 512, .inl (fun _ => (-1))))] H := hP
  have hD : va_D A [(oM, .inr (12, [.ref mT, .int 0, .ref mS, .ref mX, .int 0, .int 0, .ref mL, .ref mB, .ref mD, .ref m1, .ref m2, .int 0, .ref mR, .int 0, .ref x1, .ref x2, .ref x3, .int 0, .ref mH, .int 0, .int 0, .int 0, .int 0, .int (-1), .int (-1), .int 0, .ref mY, .int 0, .ref mE, .int 0, .int 0, .ref mW, .int 0, .ref mO, .int 0, .ref y1, .ref y2, .ref y3, .ref y4, .ref mZ])), (mL, .inl (cI, 512, .inl (fun _ => (-1))))] := hD
  rw [hw]
  refine lv_if_eq (tgt := 24) hx hb dX12_safe_14 (by decide) (fun c_2 => ?_) (fun c_2 => ?_)
  · refine lv_iconst (v := (-1)) hx hb dX12_safe_24 (by decide) ?_
    exact W.iret (v := (-1)) hx hb hr (fun t ht hW => ⟨⟨(-1), (), rfl, by rw [g_safe, if_pos c_2], trivial⟩, hS.F ht⟩) (hS.2.2) dX12_safe_25
  · refine lv_iload_n hx hb dX12_safe_17 rfl (lv_at hl 2 rfl) ?_
    have hPc := hP.sub (ws' := []) [] rfl
    have hDc := hD.sub (ws' := []) [] (by decide) rfl
    have hFc := va_free (wc := []) hD hS hA [] rfl
    refine va_calli (va_runS (As := [.int 1]) (rest := []) ⟨hx, hb, hml, hown, hts⟩ (m_X12_isCode l dC dI cI cS H.size 1 ) (va_cwS 1 hts gX12_safe_X12_isCode rfl rfl rfl (by decide +kernel) ⟨Nat.le_of_ble_eq_true rfl, Nat.le_of_ble_eq_true rfl⟩) ⟨fun a U g mk q => by obtain ⟨q0, q1, qP, qK, qD⟩ := q; exact ⟨q0, q1, qP, va_K.moved (u := U) (U := U.calling g mk a) (Vm.Alike.refl U.vm) qK, qD⟩, fun U hU hW => ⟨rfl, by rw [hU], by rw [hU]; exact hPc, va_K.moved hW.alike hK, hDc.weaken (fun _ _ _ _ => trivial)⟩⟩ rfl rfl hl.1 rfl (lv_room (Nat.le_of_ble_eq_true rfl)) dX12_safe_18 ⟨Nat.le_of_ble_eq_true rfl, Nat.le_of_ble_eq_true rfl⟩) hS (fun q _ h => hFc q h) hFc (fun r_3 u t H1 locs ht hvm hw hB hz1 hk1 hS => ?_)
    obtain ⟨hP1, hD1⟩ := hB
    rw [ht] at hP1
    obtain ⟨hP, hD⟩ := va_join (wr := [(oM, .inr (12, [.ref mT, .int 0, .ref mS, .ref mX, .int 0, .int 0, .ref mL, .ref mB, .ref mD, .ref m1, .ref m2, .int 0, .ref mR, .int 0, .ref x1, .ref x2, .ref x3, .int 0, .ref mH, .int 0, .int 0, .int 0, .int 0, .int (-1), .int (-1), .int 0, .ref mY, .int 0, .ref mE, .int 0, .int 0, .ref mW, .int 0, .ref mO, .int 0, .ref y1, .ref y2, .ref y3, .ref y4, .ref mZ])), (mL, .inl (cI, 512, .inl (fun _ => (-1))))]) (w1 := []) hP hD [] [0, 1] rfl rfl (by decide) (by decide) hk1 hFc hP1 hD1
    generalize H1 = H at hP hS ⊢
    have hP : va_P (dC, dI) vwCl [(oM, .inr (12, [.ref mT, .int 0, .ref mS, .ref mX, .int 0, .int 0, .ref mL, .ref mB, .ref mD, .ref m1, .ref m2, .int 0, .ref mR, .int 0, .ref x1, .ref x2, .ref x3, .int 0, .ref mH, .int 0, .int 0, .int 0, .int 0, .int (-1), .int (-1), .int 0, .ref mY, .int 0, .ref mE, .int 0, .int 0, .ref mW, .int 0, .ref mO, .int 0, .ref y1, .ref y2, .ref y3, .ref y4, .ref mZ])), (mL, .inl (cI, 512, .inl (fun _ => (-1))))] H := hP
    have hD : va_D A [(oM, .inr (12, [.ref mT, .int 0, .ref mS, .ref mX, .int 0, .int 0, .ref mL, .ref mB, .ref mD, .ref m1, .ref m2, .int 0, .ref mR, .int 0, .ref x1, .ref x2, .ref x3, .int 0, .ref mH, .int 0, .int 0, .int 0, .int 0, .int (-1), .int (-1), .int 0, .ref mY, .int 0, .ref mE, .int 0, .int 0, .ref mW, .int 0, .ref mO, .int 0, .ref y1, .ref y2, .ref y3, .ref y4, .ref mZ])), (mL, .inl (cI, 512, .inl (fun _ => (-1))))] := hD
    rw [hw]
    refine lv_if_ne (tgt := 26) hx hb dX12_safe_21 (by decide) (fun c_4 => ?_) (fun c_4 => absurd c_4 (by decide))
    refine lv_iload_n hx hb dX12_safe_26 rfl (lv_at hl 1 rfl) ?_
    refine lv_iload_n hx hb dX12_safe_27 rfl (lv_at hl 2 rfl) ?_
    refine lv_icmp_ne (tgt := 33) hx hb dX12_safe_28 (by decide) (fun c_5 => ?_) (fun c_5 => ?_)
    · refine lv_iconst (v := 0) hx hb dX12_safe_33 (by decide) ?_
      refine lv_istore_n (lv' := [(3, .int 0), (0, .ref oM), (1, .int a), (2, .int 1)]) hx hb dX12_safe_34 rfl hl (by decide) rfl (fun ls hl => ?_)
      have LOOP_35 : ∀ (k_35 i_35 : Nat) (xc_35 : Int32)  (H : Heap) (locs : List Loc) (ls : Array Slot), i_35 + k_35 = 256 → xc_35 = nI i_35 →  (∀ j, j < i_35 → g_ok a 1 (nI j) = true) → va_P (dC, dI) vwCl [(oM, .inr (12, [.ref mT, .int 0, .ref mS, .ref mX, .int 0, .int 0, .ref mL, .ref mB, .ref mD, .ref m1, .ref m2, .int 0, .ref mR, .int 0, .ref x1, .ref x2, .ref x3, .int 0, .ref mH, .int 0, .int 0, .int 0, .int 0, .int (-1), .int (-1), .int 0, .ref mY, .int 0, .ref mE, .int 0, .int 0, .ref mW, .int 0, .ref mO, .int 0, .ref y1, .ref y2, .ref y3, .ref y4, .ref mZ])), (mL, .inl (cI, 512, .inl (fun _ => (-1))))] H → va_D A [(oM, .inr (12, [.ref mT, .int 0, .ref mS, .ref mX, .int 0, .int 0, .ref mL, .ref mB, .ref mD, .ref m1, .ref m2, .int 0, .ref mR, .int 0, .ref x1, .ref x2, .ref x3, .int 0, .ref mH, .int 0, .int 0, .int 0, .int 0, .int (-1), .int (-1), .int 0, .ref mY, .int 0, .ref mE, .int 0, .int 0, .ref mW, .int 0, .ref mO, .int 0, .ref y1, .ref y2, .ref y3, .ref y4, .ref mZ])), (mL, .inl (cI, 512, .inl (fun _ => (-1))))] → va_S A s.heap H locs → lv_has ls 5 [(3, .int xc_35), (0, .ref oM), (1, .int a), (2, .int 1)] → W p l e (headSpec wsX12_safe ({ frames := 1, cells := 0, slots := 0, locals := 22 } : Room)).room s m ([.ref oM, .int a, .int 1] : List Value).toArray below meth c H locs 0 0 (MQ below (va_Qi (fun (r : Int32) (_ : Unit) => r = g_safe a 1) (fun _ _ => True) A) ([.ref oM, .int a, .int 1] : List Value).toArray s 0 0 A) (F0 m 35 ls []) := by
        intro k_35
        induction k_35 with
        | zero =>
          intro i_35 xc_35  H locs ls hi_35 hxc_35  hok hP hD hS hl
          have hi2_35 : i_35 = 256 := by omega
          refine lv_iload_n hx hb dX12_safe_35 rfl (lv_at hl 0 rfl) ?_
          refine lv_sipush (v := 256) hx hb dX12_safe_36 (by decide) ?_
          refine lv_icmp_ge (tgt := 136) hx hb dX12_safe_39 (by decide) (fun c_6 => ?_) (fun c_6 => absurd (by rw [hxc_35]; exact nI_le (a := 256) (b := i_35) (by omega) (by rw [hi2_35]; exact (by decide))) c_6)
          refine lv_iconst (v := 1) hx hb dX12_safe_136 (by decide) ?_
          exact W.iret (v := 1) hx hb hr (fun t ht hW => ⟨⟨1, (), rfl, by rw [g_safe, if_neg c_2, if_neg (show ¬ g_code 1 = 0 by decide), g_all, if_neg c_5, if_pos (p_all (fun j hj => hok j (by omega)))], trivial⟩, hS.F ht⟩) (hS.2.2) dX12_safe_137
        | succ k_35 ih_35 =>
          intro i_35 xc_35  H locs ls hi_35 hxc_35  hok hP hD hS hl
          refine lv_iload_n hx hb dX12_safe_35 rfl (lv_at hl 0 rfl) ?_
          refine lv_sipush (v := 256) hx hb dX12_safe_36 (by decide) ?_
          refine lv_icmp_ge (tgt := 136) hx hb dX12_safe_39 (by decide) (fun c_7 => absurd c_7 (by rw [hxc_35]; exact nI_ge (a := i_35) (b := 256) (by omega) (by decide))) (fun c_7 => ?_)
          refine lv_aload_n hx hb dX12_safe_42 rfl (lv_at hl 1 rfl) ?_
          refine lv_iload_n hx hb dX12_safe_43 rfl (lv_at hl 2 rfl) ?_
          refine lv_iload_n hx hb dX12_safe_44 rfl (lv_at hl 0 rfl) ?_
          have hPc := hP.sub (ws' := [(oM, .inr (12, [.ref mT, .int 0, .ref mS, .ref mX, .int 0, .int 0, .ref mL, .ref mB, .ref mD, .ref m1, .ref m2, .int 0, .ref mR, .int 0, .ref x1, .ref x2, .ref x3, .int 0, .ref mH, .int 0, .int 0, .int 0, .int 0, .int (-1), .int (-1), .int 0, .ref mY, .int 0, .ref mE, .int 0, .int 0, .ref mW, .int 0, .ref mO, .int 0, .ref y1, .ref y2, .ref y3, .ref y4, .ref mZ])), (mL, .inl (cI, 512, .inl (fun _ => (-1))))]) [0, 1] rfl
          have hDc := hD.sub (ws' := [(oM, .inr (12, [.ref mT, .int 0, .ref mS, .ref mX, .int 0, .int 0, .ref mL, .ref mB, .ref mD, .ref m1, .ref m2, .int 0, .ref mR, .int 0, .ref x1, .ref x2, .ref x3, .int 0, .ref mH, .int 0, .int 0, .int 0, .int 0, .int (-1), .int (-1), .int 0, .ref mY, .int 0, .ref mE, .int 0, .int 0, .ref mW, .int 0, .ref mO, .int 0, .ref y1, .ref y2, .ref y3, .ref y4, .ref mZ])), (mL, .inl (cI, 512, .inl (fun _ => (-1))))]) [0, 1] (by decide) rfl
          have hFc := va_free (wc := [(oM, .inr (12, [.ref mT, .int 0, .ref mS, .ref mX, .int 0, .int 0, .ref mL, .ref mB, .ref mD, .ref m1, .ref m2, .int 0, .ref mR, .int 0, .ref x1, .ref x2, .ref x3, .int 0, .ref mH, .int 0, .int 0, .int 0, .int 0, .int (-1), .int (-1), .int 0, .ref mY, .int 0, .ref mE, .int 0, .int 0, .ref mW, .int 0, .ref mO, .int 0, .ref y1, .ref y2, .ref y3, .ref y4, .ref mZ])), (mL, .inl (cI, 512, .inl (fun _ => (-1))))]) hD hS hA [0, 1] rfl
          refine va_calli (va_runV (As := [.int a, .int xc_35]) (rest := []) ⟨hx, hb, hml, hown, hts⟩ (m_X12_canCome l dC dI cI cS H.size oM mT mS mX mL mB mD m1 m2 mR x1 x2 x3 mH mY mE mW mO y1 y2 y3 y4 mZ a xc_35 i_35 (p_code c_2) (hxc_35) (by omega)) (cwV 2 hts gX12_safe_X12_canCome rfl rfl rfl (by decide +kernel) ⟨Nat.le_of_ble_eq_true rfl, Nat.le_of_ble_eq_true rfl⟩) ⟨fun a U g mk q => by obtain ⟨q0, q1, qP, qK, qD⟩ := q; exact ⟨q0, q1, qP, va_K.moved (u := U) (U := U.calling g mk a) (Vm.Alike.refl U.vm) qK, qD⟩, va_recv hK hPc (ci := 12) (q0 := 0) rfl rfl, fun U hU hW => ⟨rfl, by rw [hU], by rw [hU]; exact hPc, va_K.moved hW.alike hK, hDc.weaken (fun _ _ _ _ => trivial)⟩⟩ rfl rfl hl.1 rfl (lv_room (Nat.le_of_ble_eq_true rfl)) dX12_safe_45 ⟨Nat.le_of_ble_eq_true rfl, Nat.le_of_ble_eq_true rfl⟩) hS (fun q _ h => hFc q h) hFc (fun r_8 u t H1 locs ht hvm hw hB hz1 hk1 hS => ?_)
          obtain ⟨hP1, hD1⟩ := hB
          rw [ht] at hP1
          obtain ⟨hP, hD⟩ := va_join (wr := []) (w1 := [(oM, .inr (12, [.ref mT, .int 0, .ref mS, .ref mX, .int 0, .int 0, .ref mL, .ref mB, .ref mD, .ref m1, .ref m2, .int 0, .ref mR, .int 0, .ref x1, .ref x2, .ref x3, .int 0, .ref mH, .int 0, .int 0, .int 0, .int 0, .int (-1), .int (-1), .int 0, .ref mY, .int 0, .ref mE, .int 0, .int 0, .ref mW, .int 0, .ref mO, .int 0, .ref y1, .ref y2, .ref y3, .ref y4, .ref mZ])), (mL, .inl (cI, 512, .inl (fun _ => (-1))))]) hP hD [0, 1] [] rfl rfl (by decide) (by decide) hk1 hFc hP1 hD1
          generalize H1 = H at hP hS ⊢
          have hP : va_P (dC, dI) vwCl [(oM, .inr (12, [.ref mT, .int 0, .ref mS, .ref mX, .int 0, .int 0, .ref mL, .ref mB, .ref mD, .ref m1, .ref m2, .int 0, .ref mR, .int 0, .ref x1, .ref x2, .ref x3, .int 0, .ref mH, .int 0, .int 0, .int 0, .int 0, .int (-1), .int (-1), .int 0, .ref mY, .int 0, .ref mE, .int 0, .int 0, .ref mW, .int 0, .ref mO, .int 0, .ref y1, .ref y2, .ref y3, .ref y4, .ref mZ])), (mL, .inl (cI, 512, .inl (fun _ => (-1))))] H := hP
          have hD : va_D A [(oM, .inr (12, [.ref mT, .int 0, .ref mS, .ref mX, .int 0, .int 0, .ref mL, .ref mB, .ref mD, .ref m1, .ref m2, .int 0, .ref mR, .int 0, .ref x1, .ref x2, .ref x3, .int 0, .ref mH, .int 0, .int 0, .int 0, .int 0, .int (-1), .int (-1), .int 0, .ref mY, .int 0, .ref mE, .int 0, .int 0, .ref mW, .int 0, .ref mO, .int 0, .ref y1, .ref y2, .ref y3, .ref y4, .ref mZ])), (mL, .inl (cI, 512, .inl (fun _ => (-1))))] := hD
          rw [hw]
          refine lv_if_ne (tgt := 54) hx hb dX12_safe_48 (by decide) (fun c_9 => ?_) (fun c_9 => ?_)
          · refine lv_iload_n hx hb dX12_safe_54 rfl (lv_at hl 3 rfl) ?_
            refine lv_iconst (v := 1) hx hb dX12_safe_55 (by decide) ?_
            refine lv_icmp_eq (tgt := 116) hx hb dX12_safe_56 (by decide) (fun c_10 => ?_) (fun c_10 => absurd (by decide) c_10)
            refine lv_iconst (v := 1) hx hb dX12_safe_116 (by decide) ?_
            refine lv_goto (tgt := 121) hx hb dX12_safe_117 (by decide) ?_
            refine lv_istore (lv' := [(4, .int 1), (3, .int xc_35), (0, .ref oM), (1, .int a), (2, .int 1)]) hx hb dX12_safe_121 hl (by decide) rfl (fun ls hl => ?_)
            refine lv_iload hx hb dX12_safe_123 (lv_at hl 0 rfl) ?_
            refine lv_if_ne (tgt := 130) hx hb dX12_safe_125 (by decide) (fun c_11 => ?_) (fun c_11 => absurd c_11 (by decide))
            obtain ⟨x_12, ex_12⟩ : ∃ y : Int32, y = xc_35 + 1 := ⟨_, rfl⟩
            refine lv_iinc (v := x_12) (lv' := [(3, .int x_12), (4, .int 1), (0, .ref oM), (1, .int a), (2, .int 1)]) hx hb dX12_safe_130 hl (k := 1) rfl (by rw [ex_12]; rfl) (by decide) rfl (fun ls hl => ?_)
            refine lv_goto (tgt := 35) hx hb dX12_safe_133 (by decide) ?_
            exact ih_35 (i_35 + 1) x_12  _ _ _ (by omega) (by rw [ex_12, hxc_35]; exact nI_1 i_35)  (lt_s hok (by rw [← hxc_35]; exact gok_yes (by simp [gis_1, c_2, c_5]))) hP hD hS (lv_sub hl [0, 2, 3, 4] rfl)
          · refine lv_goto (tgt := 130) hx hb dX12_safe_51 (by decide) ?_
            obtain ⟨x_13, ex_13⟩ : ∃ y : Int32, y = xc_35 + 1 := ⟨_, rfl⟩
            refine lv_iinc (v := x_13) (lv' := [(3, .int x_13), (0, .ref oM), (1, .int a), (2, .int 1)]) hx hb dX12_safe_130 hl (k := 0) rfl (by rw [ex_13]; rfl) (by decide) rfl (fun ls hl => ?_)
            refine lv_goto (tgt := 35) hx hb dX12_safe_133 (by decide) ?_
            exact ih_35 (i_35 + 1) x_13  _ _ _ (by omega) (by rw [ex_13, hxc_35]; exact nI_1 i_35)  (lt_s hok (by rw [← hxc_35]; exact gok_skip c_9)) hP hD hS (lv_sub hl [0, 1, 2, 3] rfl)
      exact LOOP_35 256 0 0  _ _ _ (by omega) nI_0.symm  (fun j hj => absurd hj (Nat.not_lt_zero j)) hP hD hS (lv_sub hl [0, 1, 2, 3] rfl)
    · refine lv_iconst (v := 1) hx hb dX12_safe_31 (by decide) ?_
      exact W.iret (v := 1) hx hb hr (fun t ht hW => ⟨⟨1, (), rfl, by rw [g_safe, if_neg c_2, if_neg (show ¬ g_code 1 = 0 by decide), g_all, if_pos c_5], trivial⟩, hS.F ht⟩) (hS.2.2) dX12_safe_32

set_option maxHeartbeats 4000000 in
set_option maxRecDepth 100000 in
theorem y_safe_2 (l : Launch) (dC : Nat → ClassId) (dI : Nat → Nat → Nat) (cI cS : ClassId) (sz : Nat) (oM : Nat) (mT : Nat) (mS : Nat) (mX : Nat) (mL : Nat) (mB : Nat) (mD : Nat) (m1 : Nat) (m2 : Nat) (mR : Nat) (x1 : Nat) (x2 : Nat) (x3 : Nat) (mH : Nat) (mY : Nat) (mE : Nat) (mW : Nat) (mO : Nat) (y1 : Nat) (y2 : Nat) (y3 : Nat) (y4 : Nat) (mZ : Nat) (a : Int32)  : Met l yX12_safe wsX12_safe ({ frames := 1, cells := 0, slots := 0, locals := 22 } : Room) (va_Pc [.ref oM, .int a, .int 2] (fun U => U.heap.size = sz ∧ va_P (dC, dI) vwCl [(oM, .inr (12, [.ref mT, .int 0, .ref mS, .ref mX, .int 0, .int 0, .ref mL, .ref mB, .ref mD, .ref m1, .ref m2, .int 0, .ref mR, .int 0, .ref x1, .ref x2, .ref x3, .int 0, .ref mH, .int 0, .int 0, .int 0, .int 0, .int (-1), .int (-1), .int 0, .ref mY, .int 0, .ref mE, .int 0, .int 0, .ref mW, .int 0, .ref mO, .int 0, .ref y1, .ref y2, .ref y3, .ref y4, .ref mZ])), (mL, .inl (cI, 512, .inl (fun _ => (-1))))] U.heap ∧ va_K (dC, dI) vwCl [(cI, .int), (cS, .short)] U ∧ va_D (fun _ => True) [(oM, .inr (12, [.ref mT, .int 0, .ref mS, .ref mX, .int 0, .int 0, .ref mL, .ref mB, .ref mD, .ref m1, .ref m2, .int 0, .ref mR, .int 0, .ref x1, .ref x2, .ref x3, .int 0, .ref mH, .int 0, .int 0, .int 0, .int 0, .int (-1), .int (-1), .int 0, .ref mY, .int 0, .ref mE, .int 0, .int 0, .ref mW, .int 0, .ref mO, .int 0, .ref y1, .ref y2, .ref y3, .ref y4, .ref mZ])), (mL, .inl (cI, 512, .inl (fun _ => (-1))))])) (va_Qi (fun (r : Int32) (_ : Unit) => r = g_safe a 2) (fun _ _ => True) (va_A [(oM, .inr (12, [.ref mT, .int 0, .ref mS, .ref mX, .int 0, .int 0, .ref mL, .ref mB, .ref mD, .ref m1, .ref m2, .int 0, .ref mR, .int 0, .ref x1, .ref x2, .ref x3, .int 0, .ref mH, .int 0, .int 0, .int 0, .int 0, .int (-1), .int (-1), .int 0, .ref mY, .int 0, .ref mE, .int 0, .int 0, .ref mW, .int 0, .ref mO, .int 0, .ref y1, .ref y2, .ref y3, .ref y4, .ref mZ])), (mL, .inl (cI, 512, .inl (fun _ => (-1))))] sz)) 0 0 (va_A [(oM, .inr (12, [.ref mT, .int 0, .ref mS, .ref mX, .int 0, .int 0, .ref mL, .ref mB, .ref mD, .ref m1, .ref m2, .int 0, .ref mR, .int 0, .ref x1, .ref x2, .ref x3, .int 0, .ref mH, .int 0, .int 0, .int 0, .int 0, .int (-1), .int (-1), .int 0, .ref mY, .int 0, .ref mE, .int 0, .int 0, .ref mW, .int 0, .ref mO, .int 0, .ref y1, .ref y2, .ref y3, .ref y4, .ref mZ])), (mL, .inl (cI, 512, .inl (fun _ => (-1))))] sz) := by
  refine Met.ofW (cc := cX12_safe) (maxL := 5) (ret := (some .int)) (by decide) rfl ?_
  intro p e s m args below meth c s₁ B hml hv
  obtain ⟨rfl, hsz, hP, hK, hD0⟩ := hv
  have hx := B.exec
  have hb := B.bytes
  have hr := B.returns
  have hts := atoms_spec (ws := wsX12_safe) B.pre
  have hown : s.vm.findClass RX12 = some m.cls := findClass_of_methodNamed B.named
  have hlocks := B.notSynchronized
  have in_X12 : ∀ w ∈ wsX120, w ∈ wsX12_safe := fun _ h => List.mem_cons_of_mem _ (List.mem_append_right _ (h))
  subst hsz
  have hD := hD0.self (sz := s.heap.size)
  generalize hAe : va_A [(oM, .inr (12, [.ref mT, .int 0, .ref mS, .ref mX, .int 0, .int 0, .ref mL, .ref mB, .ref mD, .ref m1, .ref m2, .int 0, .ref mR, .int 0, .ref x1, .ref x2, .ref x3, .int 0, .ref mH, .int 0, .int 0, .int 0, .int 0, .int (-1), .int (-1), .int 0, .ref mY, .int 0, .ref mE, .int 0, .int 0, .ref mW, .int 0, .ref mO, .int 0, .ref y1, .ref y2, .ref y3, .ref y4, .ref mZ])), (mL, .inl (cI, 512, .inl (fun _ => (-1))))] s.heap.size = A at hD ⊢
  have hA : ∀ q : Nat, s.heap.size ≤ q → A q := fun q h => by rw [← hAe]; exact Or.inr h
  have hS : va_S A s.heap s.heap [] := va_S.rf
  have hP : va_P (dC, dI) vwCl [(oM, .inr (12, [.ref mT, .int 0, .ref mS, .ref mX, .int 0, .int 0, .ref mL, .ref mB, .ref mD, .ref m1, .ref m2, .int 0, .ref mR, .int 0, .ref x1, .ref x2, .ref x3, .int 0, .ref mH, .int 0, .int 0, .int 0, .int 0, .int (-1), .int (-1), .int 0, .ref mY, .int 0, .ref mE, .int 0, .int 0, .ref mW, .int 0, .ref mO, .int 0, .ref y1, .ref y2, .ref y3, .ref y4, .ref mZ])), (mL, .inl (cI, 512, .inl (fun _ => (-1))))] s.heap := hP
  have hl := lv_entry ([.ref oM, .int a, .int 2]) (n := 5) (Nat.le_of_ble_eq_true rfl)
  rw [lg_entry_eq]
  generalize (lg_sl ([.ref oM, .int a, .int 2]) ++ List.replicate (5 - (lg_sl ([.ref oM, .int a, .int 2])).length) Slot.unset).toArray = ls at hl ⊢
  have hl : lv_has ls 5 [(0, .ref oM), (1, .int a), (2, .int 2)] := hl
  refine lv_aload_n hx hb dX12_safe_0 rfl (lv_at hl 0 rfl) ?_
  refine lv_iconst (v := 0) hx hb dX12_safe_1 (by decide) ?_
  refine va_put (D := (dC, dI)) (ci := 12) (v := .int 0) (ty := .int) (C := RX12) (T := TX12) (N := 40) hx hb hts in_X12 tyX12 tyX12_ok nmX12 hown hK hP hD hS 0 rfl rfl 25 (by decide) (hts (.fieldLink RX12 85 "TextMenderModel" "thrown" "I") (List.mem_of_getElem? (i := 1) rfl)) (fun _ h9 => h9) rfl (by decide +kernel) rfl rfl (Nat.le_of_ble_eq_true rfl) dX12_safe_2 (fun H locs hP hD hS => ?_)
  have hP : va_P (dC, dI) vwCl [(oM, .inr (12, [.ref mT, .int 0, .ref mS, .ref mX, .int 0, .int 0, .ref mL, .ref mB, .ref mD, .ref m1, .ref m2, .int 0, .ref mR, .int 0, .ref x1, .ref x2, .ref x3, .int 0, .ref mH, .int 0, .int 0, .int 0, .int 0, .int (-1), .int (-1), .int 0, .ref mY, .int 0, .ref mE, .int 0, .int 0, .ref mW, .int 0, .ref mO, .int 0, .ref y1, .ref y2, .ref y3, .ref y4, .ref mZ])), (mL, .inl (cI, 512, .inl (fun _ => (-1))))] H := hP
  have hD : va_D A [(oM, .inr (12, [.ref mT, .int 0, .ref mS, .ref mX, .int 0, .int 0, .ref mL, .ref mB, .ref mD, .ref m1, .ref m2, .int 0, .ref mR, .int 0, .ref x1, .ref x2, .ref x3, .int 0, .ref mH, .int 0, .int 0, .int 0, .int 0, .int (-1), .int (-1), .int 0, .ref mY, .int 0, .ref mE, .int 0, .int 0, .ref mW, .int 0, .ref mO, .int 0, .ref y1, .ref y2, .ref y3, .ref y4, .ref mZ])), (mL, .inl (cI, 512, .inl (fun _ => (-1))))] := hD
  refine lv_aload_n hx hb dX12_safe_5 rfl (lv_at hl 0 rfl) ?_
  refine lv_iconst (v := (-1)) hx hb dX12_safe_6 (by decide) ?_
  refine va_put (D := (dC, dI)) (ci := 12) (v := .int (-1)) (ty := .int) (C := RX12) (T := TX12) (N := 40) hx hb hts in_X12 tyX12 tyX12_ok nmX12 hown hK hP hD hS 0 rfl rfl 24 (by decide) (hts (.fieldLink RX12 55 "TextMenderModel" "where" "I") (List.mem_of_getElem? (i := 2) rfl)) (fun _ h9 => h9) rfl (by decide +kernel) rfl rfl (Nat.le_of_ble_eq_true rfl) dX12_safe_7 (fun H locs hP hD hS => ?_)
  have hP : va_P (dC, dI) vwCl [(oM, .inr (12, [.ref mT, .int 0, .ref mS, .ref mX, .int 0, .int 0, .ref mL, .ref mB, .ref mD, .ref m1, .ref m2, .int 0, .ref mR, .int 0, .ref x1, .ref x2, .ref x3, .int 0, .ref mH, .int 0, .int 0, .int 0, .int 0, .int (-1), .int (-1), .int 0, .ref mY, .int 0, .ref mE, .int 0, .int 0, .ref mW, .int 0, .ref mO, .int 0, .ref y1, .ref y2, .ref y3, .ref y4, .ref mZ])), (mL, .inl (cI, 512, .inl (fun _ => (-1))))] H := hP
  have hD : va_D A [(oM, .inr (12, [.ref mT, .int 0, .ref mS, .ref mX, .int 0, .int 0, .ref mL, .ref mB, .ref mD, .ref m1, .ref m2, .int 0, .ref mR, .int 0, .ref x1, .ref x2, .ref x3, .int 0, .ref mH, .int 0, .int 0, .int 0, .int 0, .int (-1), .int (-1), .int 0, .ref mY, .int 0, .ref mE, .int 0, .int 0, .ref mW, .int 0, .ref mO, .int 0, .ref y1, .ref y2, .ref y3, .ref y4, .ref mZ])), (mL, .inl (cI, 512, .inl (fun _ => (-1))))] := hD
  refine lv_iload_n hx hb dX12_safe_10 rfl (lv_at hl 1 rfl) ?_
  have hPc := hP.sub (ws' := []) [] rfl
  have hDc := hD.sub (ws' := []) [] (by decide) rfl
  have hFc := va_free (wc := []) hD hS hA [] rfl
  refine va_calli (va_runS (As := [.int a]) (rest := []) ⟨hx, hb, hml, hown, hts⟩ (m_X12_isCode l dC dI cI cS H.size a ) (va_cwS 1 hts gX12_safe_X12_isCode rfl rfl rfl (by decide +kernel) ⟨Nat.le_of_ble_eq_true rfl, Nat.le_of_ble_eq_true rfl⟩) ⟨fun a U g mk q => by obtain ⟨q0, q1, qP, qK, qD⟩ := q; exact ⟨q0, q1, qP, va_K.moved (u := U) (U := U.calling g mk a) (Vm.Alike.refl U.vm) qK, qD⟩, fun U hU hW => ⟨rfl, by rw [hU], by rw [hU]; exact hPc, va_K.moved hW.alike hK, hDc.weaken (fun _ _ _ _ => trivial)⟩⟩ rfl rfl hl.1 rfl (lv_room (Nat.le_of_ble_eq_true rfl)) dX12_safe_11 ⟨Nat.le_of_ble_eq_true rfl, Nat.le_of_ble_eq_true rfl⟩) hS (fun q _ h => hFc q h) hFc (fun r_1 u t H1 locs ht hvm hw hB hz1 hk1 hS => ?_)
  obtain ⟨hP1, hD1⟩ := hB
  rw [ht] at hP1
  obtain ⟨hP, hD⟩ := va_join (wr := [(oM, .inr (12, [.ref mT, .int 0, .ref mS, .ref mX, .int 0, .int 0, .ref mL, .ref mB, .ref mD, .ref m1, .ref m2, .int 0, .ref mR, .int 0, .ref x1, .ref x2, .ref x3, .int 0, .ref mH, .int 0, .int 0, .int 0, .int 0, .int (-1), .int (-1), .int 0, .ref mY, .int 0, .ref mE, .int 0, .int 0, .ref mW, .int 0, .ref mO, .int 0, .ref y1, .ref y2, .ref y3, .ref y4, .ref mZ])), (mL, .inl (cI, 512, .inl (fun _ => (-1))))]) (w1 := []) hP hD [] [0, 1] rfl rfl (by decide) (by decide) hk1 hFc hP1 hD1
  generalize H1 = H at hP hS ⊢
  have hP : va_P (dC, dI) vwCl [(oM, .inr (12, [.ref mT, .int 0, .ref mS, .ref mX, .int 0, .int 0, .ref mL, .ref mB, .ref mD, .ref m1, .ref m2, .int 0, .ref mR, .int 0, .ref x1, .ref x2, .ref x3, .int 0, .ref mH, .int 0, .int 0, .int 0, .int 0, .int (-1), .int (-1), .int 0, .ref mY, .int 0, .ref mE, .int 0, .int 0, .ref mW, .int 0, .ref mO, .int 0, .ref y1, .ref y2, .ref y3, .ref y4, .ref mZ])), (mL, .inl (cI, 512, .inl (fun _ => (-1))))] H := hP
  have hD : va_D A [(oM, .inr (12, [.ref mT, .int 0, .ref mS, .ref mX, .int 0, .int 0, .ref mL, .ref mB, .ref mD, .ref m1, .ref m2, .int 0, .ref mR, .int 0, .ref x1, .ref x2, .ref x3, .int 0, .ref mH, .int 0, .int 0, .int 0, .int 0, .int (-1), .int (-1), .int 0, .ref mY, .int 0, .ref mE, .int 0, .int 0, .ref mW, .int 0, .ref mO, .int 0, .ref y1, .ref y2, .ref y3, .ref y4, .ref mZ])), (mL, .inl (cI, 512, .inl (fun _ => (-1))))] := hD
  rw [hw]
  refine lv_if_eq (tgt := 24) hx hb dX12_safe_14 (by decide) (fun c_2 => ?_) (fun c_2 => ?_)
  · refine lv_iconst (v := (-1)) hx hb dX12_safe_24 (by decide) ?_
    exact W.iret (v := (-1)) hx hb hr (fun t ht hW => ⟨⟨(-1), (), rfl, by rw [g_safe, if_pos c_2], trivial⟩, hS.F ht⟩) (hS.2.2) dX12_safe_25
  · refine lv_iload_n hx hb dX12_safe_17 rfl (lv_at hl 2 rfl) ?_
    have hPc := hP.sub (ws' := []) [] rfl
    have hDc := hD.sub (ws' := []) [] (by decide) rfl
    have hFc := va_free (wc := []) hD hS hA [] rfl
    refine va_calli (va_runS (As := [.int 2]) (rest := []) ⟨hx, hb, hml, hown, hts⟩ (m_X12_isCode l dC dI cI cS H.size 2 ) (va_cwS 1 hts gX12_safe_X12_isCode rfl rfl rfl (by decide +kernel) ⟨Nat.le_of_ble_eq_true rfl, Nat.le_of_ble_eq_true rfl⟩) ⟨fun a U g mk q => by obtain ⟨q0, q1, qP, qK, qD⟩ := q; exact ⟨q0, q1, qP, va_K.moved (u := U) (U := U.calling g mk a) (Vm.Alike.refl U.vm) qK, qD⟩, fun U hU hW => ⟨rfl, by rw [hU], by rw [hU]; exact hPc, va_K.moved hW.alike hK, hDc.weaken (fun _ _ _ _ => trivial)⟩⟩ rfl rfl hl.1 rfl (lv_room (Nat.le_of_ble_eq_true rfl)) dX12_safe_18 ⟨Nat.le_of_ble_eq_true rfl, Nat.le_of_ble_eq_true rfl⟩) hS (fun q _ h => hFc q h) hFc (fun r_3 u t H1 locs ht hvm hw hB hz1 hk1 hS => ?_)
    obtain ⟨hP1, hD1⟩ := hB
    rw [ht] at hP1
    obtain ⟨hP, hD⟩ := va_join (wr := [(oM, .inr (12, [.ref mT, .int 0, .ref mS, .ref mX, .int 0, .int 0, .ref mL, .ref mB, .ref mD, .ref m1, .ref m2, .int 0, .ref mR, .int 0, .ref x1, .ref x2, .ref x3, .int 0, .ref mH, .int 0, .int 0, .int 0, .int 0, .int (-1), .int (-1), .int 0, .ref mY, .int 0, .ref mE, .int 0, .int 0, .ref mW, .int 0, .ref mO, .int 0, .ref y1, .ref y2, .ref y3, .ref y4, .ref mZ])), (mL, .inl (cI, 512, .inl (fun _ => (-1))))]) (w1 := []) hP hD [] [0, 1] rfl rfl (by decide) (by decide) hk1 hFc hP1 hD1
    generalize H1 = H at hP hS ⊢
    have hP : va_P (dC, dI) vwCl [(oM, .inr (12, [.ref mT, .int 0, .ref mS, .ref mX, .int 0, .int 0, .ref mL, .ref mB, .ref mD, .ref m1, .ref m2, .int 0, .ref mR, .int 0, .ref x1, .ref x2, .ref x3, .int 0, .ref mH, .int 0, .int 0, .int 0, .int 0, .int (-1), .int (-1), .int 0, .ref mY, .int 0, .ref mE, .int 0, .int 0, .ref mW, .int 0, .ref mO, .int 0, .ref y1, .ref y2, .ref y3, .ref y4, .ref mZ])), (mL, .inl (cI, 512, .inl (fun _ => (-1))))] H := hP
    have hD : va_D A [(oM, .inr (12, [.ref mT, .int 0, .ref mS, .ref mX, .int 0, .int 0, .ref mL, .ref mB, .ref mD, .ref m1, .ref m2, .int 0, .ref mR, .int 0, .ref x1, .ref x2, .ref x3, .int 0, .ref mH, .int 0, .int 0, .int 0, .int 0, .int (-1), .int (-1), .int 0, .ref mY, .int 0, .ref mE, .int 0, .int 0, .ref mW, .int 0, .ref mO, .int 0, .ref y1, .ref y2, .ref y3, .ref y4, .ref mZ])), (mL, .inl (cI, 512, .inl (fun _ => (-1))))] := hD
    rw [hw]
    refine lv_if_ne (tgt := 26) hx hb dX12_safe_21 (by decide) (fun c_4 => ?_) (fun c_4 => absurd c_4 (by decide))
    refine lv_iload_n hx hb dX12_safe_26 rfl (lv_at hl 1 rfl) ?_
    refine lv_iload_n hx hb dX12_safe_27 rfl (lv_at hl 2 rfl) ?_
    refine lv_icmp_ne (tgt := 33) hx hb dX12_safe_28 (by decide) (fun c_5 => ?_) (fun c_5 => ?_)
    · refine lv_iconst (v := 0) hx hb dX12_safe_33 (by decide) ?_
      refine lv_istore_n (lv' := [(3, .int 0), (0, .ref oM), (1, .int a), (2, .int 2)]) hx hb dX12_safe_34 rfl hl (by decide) rfl (fun ls hl => ?_)
      have LOOP_35 : ∀ (k_35 i_35 : Nat) (xc_35 : Int32)  (H : Heap) (locs : List Loc) (ls : Array Slot), i_35 + k_35 = 256 → xc_35 = nI i_35 →  (∀ j, j < i_35 → g_ok a 2 (nI j) = true) → va_P (dC, dI) vwCl [(oM, .inr (12, [.ref mT, .int 0, .ref mS, .ref mX, .int 0, .int 0, .ref mL, .ref mB, .ref mD, .ref m1, .ref m2, .int 0, .ref mR, .int 0, .ref x1, .ref x2, .ref x3, .int 0, .ref mH, .int 0, .int 0, .int 0, .int 0, .int (-1), .int (-1), .int 0, .ref mY, .int 0, .ref mE, .int 0, .int 0, .ref mW, .int 0, .ref mO, .int 0, .ref y1, .ref y2, .ref y3, .ref y4, .ref mZ])), (mL, .inl (cI, 512, .inl (fun _ => (-1))))] H → va_D A [(oM, .inr (12, [.ref mT, .int 0, .ref mS, .ref mX, .int 0, .int 0, .ref mL, .ref mB, .ref mD, .ref m1, .ref m2, .int 0, .ref mR, .int 0, .ref x1, .ref x2, .ref x3, .int 0, .ref mH, .int 0, .int 0, .int 0, .int 0, .int (-1), .int (-1), .int 0, .ref mY, .int 0, .ref mE, .int 0, .int 0, .ref mW, .int 0, .ref mO, .int 0, .ref y1, .ref y2, .ref y3, .ref y4, .ref mZ])), (mL, .inl (cI, 512, .inl (fun _ => (-1))))] → va_S A s.heap H locs → lv_has ls 5 [(3, .int xc_35), (0, .ref oM), (1, .int a), (2, .int 2)] → W p l e (headSpec wsX12_safe ({ frames := 1, cells := 0, slots := 0, locals := 22 } : Room)).room s m ([.ref oM, .int a, .int 2] : List Value).toArray below meth c H locs 0 0 (MQ below (va_Qi (fun (r : Int32) (_ : Unit) => r = g_safe a 2) (fun _ _ => True) A) ([.ref oM, .int a, .int 2] : List Value).toArray s 0 0 A) (F0 m 35 ls []) := by
        intro k_35
        induction k_35 with
        | zero =>
          intro i_35 xc_35  H locs ls hi_35 hxc_35  hok hP hD hS hl
          have hi2_35 : i_35 = 256 := by omega
          refine lv_iload_n hx hb dX12_safe_35 rfl (lv_at hl 0 rfl) ?_
          refine lv_sipush (v := 256) hx hb dX12_safe_36 (by decide) ?_
          refine lv_icmp_ge (tgt := 136) hx hb dX12_safe_39 (by decide) (fun c_6 => ?_) (fun c_6 => absurd (by rw [hxc_35]; exact nI_le (a := 256) (b := i_35) (by omega) (by rw [hi2_35]; exact (by decide))) c_6)
          refine lv_iconst (v := 1) hx hb dX12_safe_136 (by decide) ?_
          exact W.iret (v := 1) hx hb hr (fun t ht hW => ⟨⟨1, (), rfl, by rw [g_safe, if_neg c_2, if_neg (show ¬ g_code 2 = 0 by decide), g_all, if_neg c_5, if_pos (p_all (fun j hj => hok j (by omega)))], trivial⟩, hS.F ht⟩) (hS.2.2) dX12_safe_137
        | succ k_35 ih_35 =>
          intro i_35 xc_35  H locs ls hi_35 hxc_35  hok hP hD hS hl
          refine lv_iload_n hx hb dX12_safe_35 rfl (lv_at hl 0 rfl) ?_
          refine lv_sipush (v := 256) hx hb dX12_safe_36 (by decide) ?_
          refine lv_icmp_ge (tgt := 136) hx hb dX12_safe_39 (by decide) (fun c_7 => absurd c_7 (by rw [hxc_35]; exact nI_ge (a := i_35) (b := 256) (by omega) (by decide))) (fun c_7 => ?_)
          refine lv_aload_n hx hb dX12_safe_42 rfl (lv_at hl 1 rfl) ?_
          refine lv_iload_n hx hb dX12_safe_43 rfl (lv_at hl 2 rfl) ?_
          refine lv_iload_n hx hb dX12_safe_44 rfl (lv_at hl 0 rfl) ?_
          have hPc := hP.sub (ws' := [(oM, .inr (12, [.ref mT, .int 0, .ref mS, .ref mX, .int 0, .int 0, .ref mL, .ref mB, .ref mD, .ref m1, .ref m2, .int 0, .ref mR, .int 0, .ref x1, .ref x2, .ref x3, .int 0, .ref mH, .int 0, .int 0, .int 0, .int 0, .int (-1), .int (-1), .int 0, .ref mY, .int 0, .ref mE, .int 0, .int 0, .ref mW, .int 0, .ref mO, .int 0, .ref y1, .ref y2, .ref y3, .ref y4, .ref mZ])), (mL, .inl (cI, 512, .inl (fun _ => (-1))))]) [0, 1] rfl
          have hDc := hD.sub (ws' := [(oM, .inr (12, [.ref mT, .int 0, .ref mS, .ref mX, .int 0, .int 0, .ref mL, .ref mB, .ref mD, .ref m1, .ref m2, .int 0, .ref mR, .int 0, .ref x1, .ref x2, .ref x3, .int 0, .ref mH, .int 0, .int 0, .int 0, .int 0, .int (-1), .int (-1), .int 0, .ref mY, .int 0, .ref mE, .int 0, .int 0, .ref mW, .int 0, .ref mO, .int 0, .ref y1, .ref y2, .ref y3, .ref y4, .ref mZ])), (mL, .inl (cI, 512, .inl (fun _ => (-1))))]) [0, 1] (by decide) rfl
          have hFc := va_free (wc := [(oM, .inr (12, [.ref mT, .int 0, .ref mS, .ref mX, .int 0, .int 0, .ref mL, .ref mB, .ref mD, .ref m1, .ref m2, .int 0, .ref mR, .int 0, .ref x1, .ref x2, .ref x3, .int 0, .ref mH, .int 0, .int 0, .int 0, .int 0, .int (-1), .int (-1), .int 0, .ref mY, .int 0, .ref mE, .int 0, .int 0, .ref mW, .int 0, .ref mO, .int 0, .ref y1, .ref y2, .ref y3, .ref y4, .ref mZ])), (mL, .inl (cI, 512, .inl (fun _ => (-1))))]) hD hS hA [0, 1] rfl
          refine va_calli (va_runV (As := [.int a, .int xc_35]) (rest := []) ⟨hx, hb, hml, hown, hts⟩ (m_X12_canCome l dC dI cI cS H.size oM mT mS mX mL mB mD m1 m2 mR x1 x2 x3 mH mY mE mW mO y1 y2 y3 y4 mZ a xc_35 i_35 (p_code c_2) (hxc_35) (by omega)) (cwV 2 hts gX12_safe_X12_canCome rfl rfl rfl (by decide +kernel) ⟨Nat.le_of_ble_eq_true rfl, Nat.le_of_ble_eq_true rfl⟩) ⟨fun a U g mk q => by obtain ⟨q0, q1, qP, qK, qD⟩ := q; exact ⟨q0, q1, qP, va_K.moved (u := U) (U := U.calling g mk a) (Vm.Alike.refl U.vm) qK, qD⟩, va_recv hK hPc (ci := 12) (q0 := 0) rfl rfl, fun U hU hW => ⟨rfl, by rw [hU], by rw [hU]; exact hPc, va_K.moved hW.alike hK, hDc.weaken (fun _ _ _ _ => trivial)⟩⟩ rfl rfl hl.1 rfl (lv_room (Nat.le_of_ble_eq_true rfl)) dX12_safe_45 ⟨Nat.le_of_ble_eq_true rfl, Nat.le_of_ble_eq_true rfl⟩) hS (fun q _ h => hFc q h) hFc (fun r_8 u t H1 locs ht hvm hw hB hz1 hk1 hS => ?_)
          obtain ⟨hP1, hD1⟩ := hB
          rw [ht] at hP1
          obtain ⟨hP, hD⟩ := va_join (wr := []) (w1 := [(oM, .inr (12, [.ref mT, .int 0, .ref mS, .ref mX, .int 0, .int 0, .ref mL, .ref mB, .ref mD, .ref m1, .ref m2, .int 0, .ref mR, .int 0, .ref x1, .ref x2, .ref x3, .int 0, .ref mH, .int 0, .int 0, .int 0, .int 0, .int (-1), .int (-1), .int 0, .ref mY, .int 0, .ref mE, .int 0, .int 0, .ref mW, .int 0, .ref mO, .int 0, .ref y1, .ref y2, .ref y3, .ref y4, .ref mZ])), (mL, .inl (cI, 512, .inl (fun _ => (-1))))]) hP hD [0, 1] [] rfl rfl (by decide) (by decide) hk1 hFc hP1 hD1
          generalize H1 = H at hP hS ⊢
          have hP : va_P (dC, dI) vwCl [(oM, .inr (12, [.ref mT, .int 0, .ref mS, .ref mX, .int 0, .int 0, .ref mL, .ref mB, .ref mD, .ref m1, .ref m2, .int 0, .ref mR, .int 0, .ref x1, .ref x2, .ref x3, .int 0, .ref mH, .int 0, .int 0, .int 0, .int 0, .int (-1), .int (-1), .int 0, .ref mY, .int 0, .ref mE, .int 0, .int 0, .ref mW, .int 0, .ref mO, .int 0, .ref y1, .ref y2, .ref y3, .ref y4, .ref mZ])), (mL, .inl (cI, 512, .inl (fun _ => (-1))))] H := hP
          have hD : va_D A [(oM, .inr (12, [.ref mT, .int 0, .ref mS, .ref mX, .int 0, .int 0, .ref mL, .ref mB, .ref mD, .ref m1, .ref m2, .int 0, .ref mR, .int 0, .ref x1, .ref x2, .ref x3, .int 0, .ref mH, .int 0, .int 0, .int 0, .int 0, .int (-1), .int (-1), .int 0, .ref mY, .int 0, .ref mE, .int 0, .int 0, .ref mW, .int 0, .ref mO, .int 0, .ref y1, .ref y2, .ref y3, .ref y4, .ref mZ])), (mL, .inl (cI, 512, .inl (fun _ => (-1))))] := hD
          rw [hw]
          refine lv_if_ne (tgt := 54) hx hb dX12_safe_48 (by decide) (fun c_9 => ?_) (fun c_9 => ?_)
          · refine lv_iload_n hx hb dX12_safe_54 rfl (lv_at hl 3 rfl) ?_
            refine lv_iconst (v := 1) hx hb dX12_safe_55 (by decide) ?_
            refine lv_icmp_eq (tgt := 116) hx hb dX12_safe_56 (by decide) (fun c_10 => absurd c_10 (by decide)) (fun c_10 => ?_)
            refine lv_iload_n hx hb dX12_safe_59 rfl (lv_at hl 3 rfl) ?_
            refine lv_if_eq (tgt := 68) hx hb dX12_safe_60 (by decide) (fun c_11 => absurd c_11 (by decide)) (fun c_11 => ?_)
            refine lv_iload_n hx hb dX12_safe_63 rfl (lv_at hl 3 rfl) ?_
            refine lv_iconst (v := 2) hx hb dX12_safe_64 (by decide) ?_
            refine lv_icmp_ne (tgt := 75) hx hb dX12_safe_65 (by decide) (fun c_12 => absurd (by decide) c_12) (fun c_12 => ?_)
            refine lv_iload_n hx hb dX12_safe_68 rfl (lv_at hl 0 rfl) ?_
            refine lv_sipush (v := 128) hx hb dX12_safe_69 (by decide) ?_
            refine lv_icmp_lt (tgt := 116) hx hb dX12_safe_72 (by decide) (fun c_13 => ?_) (fun c_13 => ?_)
            · refine lv_iconst (v := 1) hx hb dX12_safe_116 (by decide) ?_
              refine lv_goto (tgt := 121) hx hb dX12_safe_117 (by decide) ?_
              refine lv_istore (lv' := [(4, .int 1), (3, .int xc_35), (0, .ref oM), (1, .int a), (2, .int 2)]) hx hb dX12_safe_121 hl (by decide) rfl (fun ls hl => ?_)
              refine lv_iload hx hb dX12_safe_123 (lv_at hl 0 rfl) ?_
              refine lv_if_ne (tgt := 130) hx hb dX12_safe_125 (by decide) (fun c_14 => ?_) (fun c_14 => absurd c_14 (by decide))
              obtain ⟨x_15, ex_15⟩ : ∃ y : Int32, y = xc_35 + 1 := ⟨_, rfl⟩
              refine lv_iinc (v := x_15) (lv' := [(3, .int x_15), (4, .int 1), (0, .ref oM), (1, .int a), (2, .int 2)]) hx hb dX12_safe_130 hl (k := 1) rfl (by rw [ex_15]; rfl) (by decide) rfl (fun ls hl => ?_)
              refine lv_goto (tgt := 35) hx hb dX12_safe_133 (by decide) ?_
              exact ih_35 (i_35 + 1) x_15  _ _ _ (by omega) (by rw [ex_15, hxc_35]; exact nI_1 i_35)  (lt_s hok (by rw [← hxc_35]; exact gok_yes (by simp [gis_2, c_2, c_5, c_13]))) hP hD hS (lv_sub hl [0, 2, 3, 4] rfl)
            · refine lv_iload_n hx hb dX12_safe_75 rfl (lv_at hl 3 rfl) ?_
              refine lv_iconst (v := 3) hx hb dX12_safe_76 (by decide) ?_
              refine lv_icmp_ne (tgt := 93) hx hb dX12_safe_77 (by decide) (fun c_16 => ?_) (fun c_16 => absurd c_16 (by decide))
              refine lv_iload_n hx hb dX12_safe_93 rfl (lv_at hl 3 rfl) ?_
              refine lv_iconst (v := 3) hx hb dX12_safe_94 (by decide) ?_
              refine lv_icmp_le (tgt := 120) hx hb dX12_safe_95 (by decide) (fun c_17 => ?_) (fun c_17 => absurd (by decide) c_17)
              refine lv_iconst (v := 0) hx hb dX12_safe_120 (by decide) ?_
              refine lv_istore (lv' := [(4, .int 0), (3, .int xc_35), (0, .ref oM), (1, .int a), (2, .int 2)]) hx hb dX12_safe_121 hl (by decide) rfl (fun ls hl => ?_)
              refine lv_iload hx hb dX12_safe_123 (lv_at hl 0 rfl) ?_
              refine lv_if_ne (tgt := 130) hx hb dX12_safe_125 (by decide) (fun c_18 => absurd (by decide) c_18) (fun c_18 => ?_)
              refine lv_iconst (v := 0) hx hb dX12_safe_128 (by decide) ?_
              exact W.iret (v := 0) hx hb hr (fun t ht hW => ⟨⟨0, (), rfl, by rw [g_safe, if_neg c_2, if_neg (show ¬ g_code 2 = 0 by decide), g_all, if_neg c_5, if_neg (p_notall (i := i_35) (by omega) (by rw [← hxc_35]; exact gok_no c_9 (by simp [gis_2, c_2, c_5, c_13])))], trivial⟩, hS.F ht⟩) (hS.2.2) dX12_safe_129
          · refine lv_goto (tgt := 130) hx hb dX12_safe_51 (by decide) ?_
            obtain ⟨x_19, ex_19⟩ : ∃ y : Int32, y = xc_35 + 1 := ⟨_, rfl⟩
            refine lv_iinc (v := x_19) (lv' := [(3, .int x_19), (0, .ref oM), (1, .int a), (2, .int 2)]) hx hb dX12_safe_130 hl (k := 0) rfl (by rw [ex_19]; rfl) (by decide) rfl (fun ls hl => ?_)
            refine lv_goto (tgt := 35) hx hb dX12_safe_133 (by decide) ?_
            exact ih_35 (i_35 + 1) x_19  _ _ _ (by omega) (by rw [ex_19, hxc_35]; exact nI_1 i_35)  (lt_s hok (by rw [← hxc_35]; exact gok_skip c_9)) hP hD hS (lv_sub hl [0, 1, 2, 3] rfl)
      exact LOOP_35 256 0 0  _ _ _ (by omega) nI_0.symm  (fun j hj => absurd hj (Nat.not_lt_zero j)) hP hD hS (lv_sub hl [0, 1, 2, 3] rfl)
    · refine lv_iconst (v := 1) hx hb dX12_safe_31 (by decide) ?_
      exact W.iret (v := 1) hx hb hr (fun t ht hW => ⟨⟨1, (), rfl, by rw [g_safe, if_neg c_2, if_neg (show ¬ g_code 2 = 0 by decide), g_all, if_pos c_5], trivial⟩, hS.F ht⟩) (hS.2.2) dX12_safe_32

set_option maxHeartbeats 4000000 in
set_option maxRecDepth 100000 in
theorem y_safe_3 (l : Launch) (dC : Nat → ClassId) (dI : Nat → Nat → Nat) (cI cS : ClassId) (sz : Nat) (oM : Nat) (mT : Nat) (mS : Nat) (mX : Nat) (mL : Nat) (mB : Nat) (mD : Nat) (m1 : Nat) (m2 : Nat) (mR : Nat) (x1 : Nat) (x2 : Nat) (x3 : Nat) (mH : Nat) (mY : Nat) (mE : Nat) (mW : Nat) (mO : Nat) (y1 : Nat) (y2 : Nat) (y3 : Nat) (y4 : Nat) (mZ : Nat) (a : Int32)  : Met l yX12_safe wsX12_safe ({ frames := 1, cells := 0, slots := 0, locals := 22 } : Room) (va_Pc [.ref oM, .int a, .int 3] (fun U => U.heap.size = sz ∧ va_P (dC, dI) vwCl [(oM, .inr (12, [.ref mT, .int 0, .ref mS, .ref mX, .int 0, .int 0, .ref mL, .ref mB, .ref mD, .ref m1, .ref m2, .int 0, .ref mR, .int 0, .ref x1, .ref x2, .ref x3, .int 0, .ref mH, .int 0, .int 0, .int 0, .int 0, .int (-1), .int (-1), .int 0, .ref mY, .int 0, .ref mE, .int 0, .int 0, .ref mW, .int 0, .ref mO, .int 0, .ref y1, .ref y2, .ref y3, .ref y4, .ref mZ])), (mL, .inl (cI, 512, .inl (fun _ => (-1))))] U.heap ∧ va_K (dC, dI) vwCl [(cI, .int), (cS, .short)] U ∧ va_D (fun _ => True) [(oM, .inr (12, [.ref mT, .int 0, .ref mS, .ref mX, .int 0, .int 0, .ref mL, .ref mB, .ref mD, .ref m1, .ref m2, .int 0, .ref mR, .int 0, .ref x1, .ref x2, .ref x3, .int 0, .ref mH, .int 0, .int 0, .int 0, .int 0, .int (-1), .int (-1), .int 0, .ref mY, .int 0, .ref mE, .int 0, .int 0, .ref mW, .int 0, .ref mO, .int 0, .ref y1, .ref y2, .ref y3, .ref y4, .ref mZ])), (mL, .inl (cI, 512, .inl (fun _ => (-1))))])) (va_Qi (fun (r : Int32) (_ : Unit) => r = g_safe a 3) (fun _ _ => True) (va_A [(oM, .inr (12, [.ref mT, .int 0, .ref mS, .ref mX, .int 0, .int 0, .ref mL, .ref mB, .ref mD, .ref m1, .ref m2, .int 0, .ref mR, .int 0, .ref x1, .ref x2, .ref x3, .int 0, .ref mH, .int 0, .int 0, .int 0, .int 0, .int (-1), .int (-1), .int 0, .ref mY, .int 0, .ref mE, .int 0, .int 0, .ref mW, .int 0, .ref mO, .int 0, .ref y1, .ref y2, .ref y3, .ref y4, .ref mZ])), (mL, .inl (cI, 512, .inl (fun _ => (-1))))] sz)) 0 0 (va_A [(oM, .inr (12, [.ref mT, .int 0, .ref mS, .ref mX, .int 0, .int 0, .ref mL, .ref mB, .ref mD, .ref m1, .ref m2, .int 0, .ref mR, .int 0, .ref x1, .ref x2, .ref x3, .int 0, .ref mH, .int 0, .int 0, .int 0, .int 0, .int (-1), .int (-1), .int 0, .ref mY, .int 0, .ref mE, .int 0, .int 0, .ref mW, .int 0, .ref mO, .int 0, .ref y1, .ref y2, .ref y3, .ref y4, .ref mZ])), (mL, .inl (cI, 512, .inl (fun _ => (-1))))] sz) := by
  refine Met.ofW (cc := cX12_safe) (maxL := 5) (ret := (some .int)) (by decide) rfl ?_
  intro p e s m args below meth c s₁ B hml hv
  obtain ⟨rfl, hsz, hP, hK, hD0⟩ := hv
  have hx := B.exec
  have hb := B.bytes
  have hr := B.returns
  have hts := atoms_spec (ws := wsX12_safe) B.pre
  have hown : s.vm.findClass RX12 = some m.cls := findClass_of_methodNamed B.named
  have hlocks := B.notSynchronized
  have in_X12 : ∀ w ∈ wsX120, w ∈ wsX12_safe := fun _ h => List.mem_cons_of_mem _ (List.mem_append_right _ (h))
  subst hsz
  have hD := hD0.self (sz := s.heap.size)
  generalize hAe : va_A [(oM, .inr (12, [.ref mT, .int 0, .ref mS, .ref mX, .int 0, .int 0, .ref mL, .ref mB, .ref mD, .ref m1, .ref m2, .int 0, .ref mR, .int 0, .ref x1, .ref x2, .ref x3, .int 0, .ref mH, .int 0, .int 0, .int 0, .int 0, .int (-1), .int (-1), .int 0, .ref mY, .int 0, .ref mE, .int 0, .int 0, .ref mW, .int 0, .ref mO, .int 0, .ref y1, .ref y2, .ref y3, .ref y4, .ref mZ])), (mL, .inl (cI, 512, .inl (fun _ => (-1))))] s.heap.size = A at hD ⊢
  have hA : ∀ q : Nat, s.heap.size ≤ q → A q := fun q h => by rw [← hAe]; exact Or.inr h
  have hS : va_S A s.heap s.heap [] := va_S.rf
  have hP : va_P (dC, dI) vwCl [(oM, .inr (12, [.ref mT, .int 0, .ref mS, .ref mX, .int 0, .int 0, .ref mL, .ref mB, .ref mD, .ref m1, .ref m2, .int 0, .ref mR, .int 0, .ref x1, .ref x2, .ref x3, .int 0, .ref mH, .int 0, .int 0, .int 0, .int 0, .int (-1), .int (-1), .int 0, .ref mY, .int 0, .ref mE, .int 0, .int 0, .ref mW, .int 0, .ref mO, .int 0, .ref y1, .ref y2, .ref y3, .ref y4, .ref mZ])), (mL, .inl (cI, 512, .inl (fun _ => (-1))))] s.heap := hP
  have hl := lv_entry ([.ref oM, .int a, .int 3]) (n := 5) (Nat.le_of_ble_eq_true rfl)
  rw [lg_entry_eq]
  generalize (lg_sl ([.ref oM, .int a, .int 3]) ++ List.replicate (5 - (lg_sl ([.ref oM, .int a, .int 3])).length) Slot.unset).toArray = ls at hl ⊢
  have hl : lv_has ls 5 [(0, .ref oM), (1, .int a), (2, .int 3)] := hl
  refine lv_aload_n hx hb dX12_safe_0 rfl (lv_at hl 0 rfl) ?_
  refine lv_iconst (v := 0) hx hb dX12_safe_1 (by decide) ?_
  refine va_put (D := (dC, dI)) (ci := 12) (v := .int 0) (ty := .int) (C := RX12) (T := TX12) (N := 40) hx hb hts in_X12 tyX12 tyX12_ok nmX12 hown hK hP hD hS 0 rfl rfl 25 (by decide) (hts (.fieldLink RX12 85 "TextMenderModel" "thrown" "I") (List.mem_of_getElem? (i := 1) rfl)) (fun _ h9 => h9) rfl (by decide +kernel) rfl rfl (Nat.le_of_ble_eq_true rfl) dX12_safe_2 (fun H locs hP hD hS => ?_)
  have hP : va_P (dC, dI) vwCl [(oM, .inr (12, [.ref mT, .int 0, .ref mS, .ref mX, .int 0, .int 0, .ref mL, .ref mB, .ref mD, .ref m1, .ref m2, .int 0, .ref mR, .int 0, .ref x1, .ref x2, .ref x3, .int 0, .ref mH, .int 0, .int 0, .int 0, .int 0, .int (-1), .int (-1), .int 0, .ref mY, .int 0, .ref mE, .int 0, .int 0, .ref mW, .int 0, .ref mO, .int 0, .ref y1, .ref y2, .ref y3, .ref y4, .ref mZ])), (mL, .inl (cI, 512, .inl (fun _ => (-1))))] H := hP
  have hD : va_D A [(oM, .inr (12, [.ref mT, .int 0, .ref mS, .ref mX, .int 0, .int 0, .ref mL, .ref mB, .ref mD, .ref m1, .ref m2, .int 0, .ref mR, .int 0, .ref x1, .ref x2, .ref x3, .int 0, .ref mH, .int 0, .int 0, .int 0, .int 0, .int (-1), .int (-1), .int 0, .ref mY, .int 0, .ref mE, .int 0, .int 0, .ref mW, .int 0, .ref mO, .int 0, .ref y1, .ref y2, .ref y3, .ref y4, .ref mZ])), (mL, .inl (cI, 512, .inl (fun _ => (-1))))] := hD
  refine lv_aload_n hx hb dX12_safe_5 rfl (lv_at hl 0 rfl) ?_
  refine lv_iconst (v := (-1)) hx hb dX12_safe_6 (by decide) ?_
  refine va_put (D := (dC, dI)) (ci := 12) (v := .int (-1)) (ty := .int) (C := RX12) (T := TX12) (N := 40) hx hb hts in_X12 tyX12 tyX12_ok nmX12 hown hK hP hD hS 0 rfl rfl 24 (by decide) (hts (.fieldLink RX12 55 "TextMenderModel" "where" "I") (List.mem_of_getElem? (i := 2) rfl)) (fun _ h9 => h9) rfl (by decide +kernel) rfl rfl (Nat.le_of_ble_eq_true rfl) dX12_safe_7 (fun H locs hP hD hS => ?_)
  have hP : va_P (dC, dI) vwCl [(oM, .inr (12, [.ref mT, .int 0, .ref mS, .ref mX, .int 0, .int 0, .ref mL, .ref mB, .ref mD, .ref m1, .ref m2, .int 0, .ref mR, .int 0, .ref x1, .ref x2, .ref x3, .int 0, .ref mH, .int 0, .int 0, .int 0, .int 0, .int (-1), .int (-1), .int 0, .ref mY, .int 0, .ref mE, .int 0, .int 0, .ref mW, .int 0, .ref mO, .int 0, .ref y1, .ref y2, .ref y3, .ref y4, .ref mZ])), (mL, .inl (cI, 512, .inl (fun _ => (-1))))] H := hP
  have hD : va_D A [(oM, .inr (12, [.ref mT, .int 0, .ref mS, .ref mX, .int 0, .int 0, .ref mL, .ref mB, .ref mD, .ref m1, .ref m2, .int 0, .ref mR, .int 0, .ref x1, .ref x2, .ref x3, .int 0, .ref mH, .int 0, .int 0, .int 0, .int 0, .int (-1), .int (-1), .int 0, .ref mY, .int 0, .ref mE, .int 0, .int 0, .ref mW, .int 0, .ref mO, .int 0, .ref y1, .ref y2, .ref y3, .ref y4, .ref mZ])), (mL, .inl (cI, 512, .inl (fun _ => (-1))))] := hD
  refine lv_iload_n hx hb dX12_safe_10 rfl (lv_at hl 1 rfl) ?_
  have hPc := hP.sub (ws' := []) [] rfl
  have hDc := hD.sub (ws' := []) [] (by decide) rfl
  have hFc := va_free (wc := []) hD hS hA [] rfl
  refine va_calli (va_runS (As := [.int a]) (rest := []) ⟨hx, hb, hml, hown, hts⟩ (m_X12_isCode l dC dI cI cS H.size a ) (va_cwS 1 hts gX12_safe_X12_isCode rfl rfl rfl (by decide +kernel) ⟨Nat.le_of_ble_eq_true rfl, Nat.le_of_ble_eq_true rfl⟩) ⟨fun a U g mk q => by obtain ⟨q0, q1, qP, qK, qD⟩ := q; exact ⟨q0, q1, qP, va_K.moved (u := U) (U := U.calling g mk a) (Vm.Alike.refl U.vm) qK, qD⟩, fun U hU hW => ⟨rfl, by rw [hU], by rw [hU]; exact hPc, va_K.moved hW.alike hK, hDc.weaken (fun _ _ _ _ => trivial)⟩⟩ rfl rfl hl.1 rfl (lv_room (Nat.le_of_ble_eq_true rfl)) dX12_safe_11 ⟨Nat.le_of_ble_eq_true rfl, Nat.le_of_ble_eq_true rfl⟩) hS (fun q _ h => hFc q h) hFc (fun r_1 u t H1 locs ht hvm hw hB hz1 hk1 hS => ?_)
  obtain ⟨hP1, hD1⟩ := hB
  rw [ht] at hP1
  obtain ⟨hP, hD⟩ := va_join (wr := [(oM, .inr (12, [.ref mT, .int 0, .ref mS, .ref mX, .int 0, .int 0, .ref mL, .ref mB, .ref mD, .ref m1, .ref m2, .int 0, .ref mR, .int 0, .ref x1, .ref x2, .ref x3, .int 0, .ref mH, .int 0, .int 0, .int 0, .int 0, .int (-1), .int (-1), .int 0, .ref mY, .int 0, .ref mE, .int 0, .int 0, .ref mW, .int 0, .ref mO, .int 0, .ref y1, .ref y2, .ref y3, .ref y4, .ref mZ])), (mL, .inl (cI, 512, .inl (fun _ => (-1))))]) (w1 := []) hP hD [] [0, 1] rfl rfl (by decide) (by decide) hk1 hFc hP1 hD1
  generalize H1 = H at hP hS ⊢
  have hP : va_P (dC, dI) vwCl [(oM, .inr (12, [.ref mT, .int 0, .ref mS, .ref mX, .int 0, .int 0, .ref mL, .ref mB, .ref mD, .ref m1, .ref m2, .int 0, .ref mR, .int 0, .ref x1, .ref x2, .ref x3, .int 0, .ref mH, .int 0, .int 0, .int 0, .int 0, .int (-1), .int (-1), .int 0, .ref mY, .int 0, .ref mE, .int 0, .int 0, .ref mW, .int 0, .ref mO, .int 0, .ref y1, .ref y2, .ref y3, .ref y4, .ref mZ])), (mL, .inl (cI, 512, .inl (fun _ => (-1))))] H := hP
  have hD : va_D A [(oM, .inr (12, [.ref mT, .int 0, .ref mS, .ref mX, .int 0, .int 0, .ref mL, .ref mB, .ref mD, .ref m1, .ref m2, .int 0, .ref mR, .int 0, .ref x1, .ref x2, .ref x3, .int 0, .ref mH, .int 0, .int 0, .int 0, .int 0, .int (-1), .int (-1), .int 0, .ref mY, .int 0, .ref mE, .int 0, .int 0, .ref mW, .int 0, .ref mO, .int 0, .ref y1, .ref y2, .ref y3, .ref y4, .ref mZ])), (mL, .inl (cI, 512, .inl (fun _ => (-1))))] := hD
  rw [hw]
  refine lv_if_eq (tgt := 24) hx hb dX12_safe_14 (by decide) (fun c_2 => ?_) (fun c_2 => ?_)
  · refine lv_iconst (v := (-1)) hx hb dX12_safe_24 (by decide) ?_
    exact W.iret (v := (-1)) hx hb hr (fun t ht hW => ⟨⟨(-1), (), rfl, by rw [g_safe, if_pos c_2], trivial⟩, hS.F ht⟩) (hS.2.2) dX12_safe_25
  · refine lv_iload_n hx hb dX12_safe_17 rfl (lv_at hl 2 rfl) ?_
    have hPc := hP.sub (ws' := []) [] rfl
    have hDc := hD.sub (ws' := []) [] (by decide) rfl
    have hFc := va_free (wc := []) hD hS hA [] rfl
    refine va_calli (va_runS (As := [.int 3]) (rest := []) ⟨hx, hb, hml, hown, hts⟩ (m_X12_isCode l dC dI cI cS H.size 3 ) (va_cwS 1 hts gX12_safe_X12_isCode rfl rfl rfl (by decide +kernel) ⟨Nat.le_of_ble_eq_true rfl, Nat.le_of_ble_eq_true rfl⟩) ⟨fun a U g mk q => by obtain ⟨q0, q1, qP, qK, qD⟩ := q; exact ⟨q0, q1, qP, va_K.moved (u := U) (U := U.calling g mk a) (Vm.Alike.refl U.vm) qK, qD⟩, fun U hU hW => ⟨rfl, by rw [hU], by rw [hU]; exact hPc, va_K.moved hW.alike hK, hDc.weaken (fun _ _ _ _ => trivial)⟩⟩ rfl rfl hl.1 rfl (lv_room (Nat.le_of_ble_eq_true rfl)) dX12_safe_18 ⟨Nat.le_of_ble_eq_true rfl, Nat.le_of_ble_eq_true rfl⟩) hS (fun q _ h => hFc q h) hFc (fun r_3 u t H1 locs ht hvm hw hB hz1 hk1 hS => ?_)
    obtain ⟨hP1, hD1⟩ := hB
    rw [ht] at hP1
    obtain ⟨hP, hD⟩ := va_join (wr := [(oM, .inr (12, [.ref mT, .int 0, .ref mS, .ref mX, .int 0, .int 0, .ref mL, .ref mB, .ref mD, .ref m1, .ref m2, .int 0, .ref mR, .int 0, .ref x1, .ref x2, .ref x3, .int 0, .ref mH, .int 0, .int 0, .int 0, .int 0, .int (-1), .int (-1), .int 0, .ref mY, .int 0, .ref mE, .int 0, .int 0, .ref mW, .int 0, .ref mO, .int 0, .ref y1, .ref y2, .ref y3, .ref y4, .ref mZ])), (mL, .inl (cI, 512, .inl (fun _ => (-1))))]) (w1 := []) hP hD [] [0, 1] rfl rfl (by decide) (by decide) hk1 hFc hP1 hD1
    generalize H1 = H at hP hS ⊢
    have hP : va_P (dC, dI) vwCl [(oM, .inr (12, [.ref mT, .int 0, .ref mS, .ref mX, .int 0, .int 0, .ref mL, .ref mB, .ref mD, .ref m1, .ref m2, .int 0, .ref mR, .int 0, .ref x1, .ref x2, .ref x3, .int 0, .ref mH, .int 0, .int 0, .int 0, .int 0, .int (-1), .int (-1), .int 0, .ref mY, .int 0, .ref mE, .int 0, .int 0, .ref mW, .int 0, .ref mO, .int 0, .ref y1, .ref y2, .ref y3, .ref y4, .ref mZ])), (mL, .inl (cI, 512, .inl (fun _ => (-1))))] H := hP
    have hD : va_D A [(oM, .inr (12, [.ref mT, .int 0, .ref mS, .ref mX, .int 0, .int 0, .ref mL, .ref mB, .ref mD, .ref m1, .ref m2, .int 0, .ref mR, .int 0, .ref x1, .ref x2, .ref x3, .int 0, .ref mH, .int 0, .int 0, .int 0, .int 0, .int (-1), .int (-1), .int 0, .ref mY, .int 0, .ref mE, .int 0, .int 0, .ref mW, .int 0, .ref mO, .int 0, .ref y1, .ref y2, .ref y3, .ref y4, .ref mZ])), (mL, .inl (cI, 512, .inl (fun _ => (-1))))] := hD
    rw [hw]
    refine lv_if_ne (tgt := 26) hx hb dX12_safe_21 (by decide) (fun c_4 => ?_) (fun c_4 => absurd c_4 (by decide))
    refine lv_iload_n hx hb dX12_safe_26 rfl (lv_at hl 1 rfl) ?_
    refine lv_iload_n hx hb dX12_safe_27 rfl (lv_at hl 2 rfl) ?_
    refine lv_icmp_ne (tgt := 33) hx hb dX12_safe_28 (by decide) (fun c_5 => ?_) (fun c_5 => ?_)
    · refine lv_iconst (v := 0) hx hb dX12_safe_33 (by decide) ?_
      refine lv_istore_n (lv' := [(3, .int 0), (0, .ref oM), (1, .int a), (2, .int 3)]) hx hb dX12_safe_34 rfl hl (by decide) rfl (fun ls hl => ?_)
      have LOOP_35 : ∀ (k_35 i_35 : Nat) (xc_35 : Int32)  (H : Heap) (locs : List Loc) (ls : Array Slot), i_35 + k_35 = 256 → xc_35 = nI i_35 →  (∀ j, j < i_35 → g_ok a 3 (nI j) = true) → va_P (dC, dI) vwCl [(oM, .inr (12, [.ref mT, .int 0, .ref mS, .ref mX, .int 0, .int 0, .ref mL, .ref mB, .ref mD, .ref m1, .ref m2, .int 0, .ref mR, .int 0, .ref x1, .ref x2, .ref x3, .int 0, .ref mH, .int 0, .int 0, .int 0, .int 0, .int (-1), .int (-1), .int 0, .ref mY, .int 0, .ref mE, .int 0, .int 0, .ref mW, .int 0, .ref mO, .int 0, .ref y1, .ref y2, .ref y3, .ref y4, .ref mZ])), (mL, .inl (cI, 512, .inl (fun _ => (-1))))] H → va_D A [(oM, .inr (12, [.ref mT, .int 0, .ref mS, .ref mX, .int 0, .int 0, .ref mL, .ref mB, .ref mD, .ref m1, .ref m2, .int 0, .ref mR, .int 0, .ref x1, .ref x2, .ref x3, .int 0, .ref mH, .int 0, .int 0, .int 0, .int 0, .int (-1), .int (-1), .int 0, .ref mY, .int 0, .ref mE, .int 0, .int 0, .ref mW, .int 0, .ref mO, .int 0, .ref y1, .ref y2, .ref y3, .ref y4, .ref mZ])), (mL, .inl (cI, 512, .inl (fun _ => (-1))))] → va_S A s.heap H locs → lv_has ls 5 [(3, .int xc_35), (0, .ref oM), (1, .int a), (2, .int 3)] → W p l e (headSpec wsX12_safe ({ frames := 1, cells := 0, slots := 0, locals := 22 } : Room)).room s m ([.ref oM, .int a, .int 3] : List Value).toArray below meth c H locs 0 0 (MQ below (va_Qi (fun (r : Int32) (_ : Unit) => r = g_safe a 3) (fun _ _ => True) A) ([.ref oM, .int a, .int 3] : List Value).toArray s 0 0 A) (F0 m 35 ls []) := by
        intro k_35
        induction k_35 with
        | zero =>
          intro i_35 xc_35  H locs ls hi_35 hxc_35  hok hP hD hS hl
          have hi2_35 : i_35 = 256 := by omega
          refine lv_iload_n hx hb dX12_safe_35 rfl (lv_at hl 0 rfl) ?_
          refine lv_sipush (v := 256) hx hb dX12_safe_36 (by decide) ?_
          refine lv_icmp_ge (tgt := 136) hx hb dX12_safe_39 (by decide) (fun c_6 => ?_) (fun c_6 => absurd (by rw [hxc_35]; exact nI_le (a := 256) (b := i_35) (by omega) (by rw [hi2_35]; exact (by decide))) c_6)
          refine lv_iconst (v := 1) hx hb dX12_safe_136 (by decide) ?_
          exact W.iret (v := 1) hx hb hr (fun t ht hW => ⟨⟨1, (), rfl, by rw [g_safe, if_neg c_2, if_neg (show ¬ g_code 3 = 0 by decide), g_all, if_neg c_5, if_pos (p_all (fun j hj => hok j (by omega)))], trivial⟩, hS.F ht⟩) (hS.2.2) dX12_safe_137
        | succ k_35 ih_35 =>
          intro i_35 xc_35  H locs ls hi_35 hxc_35  hok hP hD hS hl
          refine lv_iload_n hx hb dX12_safe_35 rfl (lv_at hl 0 rfl) ?_
          refine lv_sipush (v := 256) hx hb dX12_safe_36 (by decide) ?_
          refine lv_icmp_ge (tgt := 136) hx hb dX12_safe_39 (by decide) (fun c_7 => absurd c_7 (by rw [hxc_35]; exact nI_ge (a := i_35) (b := 256) (by omega) (by decide))) (fun c_7 => ?_)
          refine lv_aload_n hx hb dX12_safe_42 rfl (lv_at hl 1 rfl) ?_
          refine lv_iload_n hx hb dX12_safe_43 rfl (lv_at hl 2 rfl) ?_
          refine lv_iload_n hx hb dX12_safe_44 rfl (lv_at hl 0 rfl) ?_
          have hPc := hP.sub (ws' := [(oM, .inr (12, [.ref mT, .int 0, .ref mS, .ref mX, .int 0, .int 0, .ref mL, .ref mB, .ref mD, .ref m1, .ref m2, .int 0, .ref mR, .int 0, .ref x1, .ref x2, .ref x3, .int 0, .ref mH, .int 0, .int 0, .int 0, .int 0, .int (-1), .int (-1), .int 0, .ref mY, .int 0, .ref mE, .int 0, .int 0, .ref mW, .int 0, .ref mO, .int 0, .ref y1, .ref y2, .ref y3, .ref y4, .ref mZ])), (mL, .inl (cI, 512, .inl (fun _ => (-1))))]) [0, 1] rfl
          have hDc := hD.sub (ws' := [(oM, .inr (12, [.ref mT, .int 0, .ref mS, .ref mX, .int 0, .int 0, .ref mL, .ref mB, .ref mD, .ref m1, .ref m2, .int 0, .ref mR, .int 0, .ref x1, .ref x2, .ref x3, .int 0, .ref mH, .int 0, .int 0, .int 0, .int 0, .int (-1), .int (-1), .int 0, .ref mY, .int 0, .ref mE, .int 0, .int 0, .ref mW, .int 0, .ref mO, .int 0, .ref y1, .ref y2, .ref y3, .ref y4, .ref mZ])), (mL, .inl (cI, 512, .inl (fun _ => (-1))))]) [0, 1] (by decide) rfl
          have hFc := va_free (wc := [(oM, .inr (12, [.ref mT, .int 0, .ref mS, .ref mX, .int 0, .int 0, .ref mL, .ref mB, .ref mD, .ref m1, .ref m2, .int 0, .ref mR, .int 0, .ref x1, .ref x2, .ref x3, .int 0, .ref mH, .int 0, .int 0, .int 0, .int 0, .int (-1), .int (-1), .int 0, .ref mY, .int 0, .ref mE, .int 0, .int 0, .ref mW, .int 0, .ref mO, .int 0, .ref y1, .ref y2, .ref y3, .ref y4, .ref mZ])), (mL, .inl (cI, 512, .inl (fun _ => (-1))))]) hD hS hA [0, 1] rfl
          refine va_calli (va_runV (As := [.int a, .int xc_35]) (rest := []) ⟨hx, hb, hml, hown, hts⟩ (m_X12_canCome l dC dI cI cS H.size oM mT mS mX mL mB mD m1 m2 mR x1 x2 x3 mH mY mE mW mO y1 y2 y3 y4 mZ a xc_35 i_35 (p_code c_2) (hxc_35) (by omega)) (cwV 2 hts gX12_safe_X12_canCome rfl rfl rfl (by decide +kernel) ⟨Nat.le_of_ble_eq_true rfl, Nat.le_of_ble_eq_true rfl⟩) ⟨fun a U g mk q => by obtain ⟨q0, q1, qP, qK, qD⟩ := q; exact ⟨q0, q1, qP, va_K.moved (u := U) (U := U.calling g mk a) (Vm.Alike.refl U.vm) qK, qD⟩, va_recv hK hPc (ci := 12) (q0 := 0) rfl rfl, fun U hU hW => ⟨rfl, by rw [hU], by rw [hU]; exact hPc, va_K.moved hW.alike hK, hDc.weaken (fun _ _ _ _ => trivial)⟩⟩ rfl rfl hl.1 rfl (lv_room (Nat.le_of_ble_eq_true rfl)) dX12_safe_45 ⟨Nat.le_of_ble_eq_true rfl, Nat.le_of_ble_eq_true rfl⟩) hS (fun q _ h => hFc q h) hFc (fun r_8 u t H1 locs ht hvm hw hB hz1 hk1 hS => ?_)
          obtain ⟨hP1, hD1⟩ := hB
          rw [ht] at hP1
          obtain ⟨hP, hD⟩ := va_join (wr := []) (w1 := [(oM, .inr (12, [.ref mT, .int 0, .ref mS, .ref mX, .int 0, .int 0, .ref mL, .ref mB, .ref mD, .ref m1, .ref m2, .int 0, .ref mR, .int 0, .ref x1, .ref x2, .ref x3, .int 0, .ref mH, .int 0, .int 0, .int 0, .int 0, .int (-1), .int (-1), .int 0, .ref mY, .int 0, .ref mE, .int 0, .int 0, .ref mW, .int 0, .ref mO, .int 0, .ref y1, .ref y2, .ref y3, .ref y4, .ref mZ])), (mL, .inl (cI, 512, .inl (fun _ => (-1))))]) hP hD [0, 1] [] rfl rfl (by decide) (by decide) hk1 hFc hP1 hD1
          generalize H1 = H at hP hS ⊢
          have hP : va_P (dC, dI) vwCl [(oM, .inr (12, [.ref mT, .int 0, .ref mS, .ref mX, .int 0, .int 0, .ref mL, .ref mB, .ref mD, .ref m1, .ref m2, .int 0, .ref mR, .int 0, .ref x1, .ref x2, .ref x3, .int 0, .ref mH, .int 0, .int 0, .int 0, .int 0, .int (-1), .int (-1), .int 0, .ref mY, .int 0, .ref mE, .int 0, .int 0, .ref mW, .int 0, .ref mO, .int 0, .ref y1, .ref y2, .ref y3, .ref y4, .ref mZ])), (mL, .inl (cI, 512, .inl (fun _ => (-1))))] H := hP
          have hD : va_D A [(oM, .inr (12, [.ref mT, .int 0, .ref mS, .ref mX, .int 0, .int 0, .ref mL, .ref mB, .ref mD, .ref m1, .ref m2, .int 0, .ref mR, .int 0, .ref x1, .ref x2, .ref x3, .int 0, .ref mH, .int 0, .int 0, .int 0, .int 0, .int (-1), .int (-1), .int 0, .ref mY, .int 0, .ref mE, .int 0, .int 0, .ref mW, .int 0, .ref mO, .int 0, .ref y1, .ref y2, .ref y3, .ref y4, .ref mZ])), (mL, .inl (cI, 512, .inl (fun _ => (-1))))] := hD
          rw [hw]
          refine lv_if_ne (tgt := 54) hx hb dX12_safe_48 (by decide) (fun c_9 => ?_) (fun c_9 => ?_)
          · refine lv_iload_n hx hb dX12_safe_54 rfl (lv_at hl 3 rfl) ?_
            refine lv_iconst (v := 1) hx hb dX12_safe_55 (by decide) ?_
            refine lv_icmp_eq (tgt := 116) hx hb dX12_safe_56 (by decide) (fun c_10 => absurd c_10 (by decide)) (fun c_10 => ?_)
            refine lv_iload_n hx hb dX12_safe_59 rfl (lv_at hl 3 rfl) ?_
            refine lv_if_eq (tgt := 68) hx hb dX12_safe_60 (by decide) (fun c_11 => absurd c_11 (by decide)) (fun c_11 => ?_)
            refine lv_iload_n hx hb dX12_safe_63 rfl (lv_at hl 3 rfl) ?_
            refine lv_iconst (v := 2) hx hb dX12_safe_64 (by decide) ?_
            refine lv_icmp_ne (tgt := 75) hx hb dX12_safe_65 (by decide) (fun c_12 => ?_) (fun c_12 => absurd c_12 (by decide))
            refine lv_iload_n hx hb dX12_safe_75 rfl (lv_at hl 3 rfl) ?_
            refine lv_iconst (v := 3) hx hb dX12_safe_76 (by decide) ?_
            refine lv_icmp_ne (tgt := 93) hx hb dX12_safe_77 (by decide) (fun c_13 => absurd (by decide) c_13) (fun c_13 => ?_)
            refine lv_iload_n hx hb dX12_safe_80 rfl (lv_at hl 0 rfl) ?_
            refine lv_sipush (v := 128) hx hb dX12_safe_81 (by decide) ?_
            refine lv_icmp_ge (tgt := 93) hx hb dX12_safe_84 (by decide) (fun c_14 => ?_) (fun c_14 => ?_)
            · refine lv_iload_n hx hb dX12_safe_93 rfl (lv_at hl 3 rfl) ?_
              refine lv_iconst (v := 3) hx hb dX12_safe_94 (by decide) ?_
              refine lv_icmp_le (tgt := 120) hx hb dX12_safe_95 (by decide) (fun c_15 => ?_) (fun c_15 => absurd (by decide) c_15)
              refine lv_iconst (v := 0) hx hb dX12_safe_120 (by decide) ?_
              refine lv_istore (lv' := [(4, .int 0), (3, .int xc_35), (0, .ref oM), (1, .int a), (2, .int 3)]) hx hb dX12_safe_121 hl (by decide) rfl (fun ls hl => ?_)
              refine lv_iload hx hb dX12_safe_123 (lv_at hl 0 rfl) ?_
              refine lv_if_ne (tgt := 130) hx hb dX12_safe_125 (by decide) (fun c_16 => absurd (by decide) c_16) (fun c_16 => ?_)
              refine lv_iconst (v := 0) hx hb dX12_safe_128 (by decide) ?_
              exact W.iret (v := 0) hx hb hr (fun t ht hW => ⟨⟨0, (), rfl, by rw [g_safe, if_neg c_2, if_neg (show ¬ g_code 3 = 0 by decide), g_all, if_neg c_5, if_neg (p_notall (i := i_35) (by omega) (by rw [← hxc_35]; exact gok_no c_9 (by simp [gis_3, c_2, c_5, c_14])))], trivial⟩, hS.F ht⟩) (hS.2.2) dX12_safe_129
            · refine lv_iload_n hx hb dX12_safe_87 rfl (lv_at hl 0 rfl) ?_
              refine lv_bipush (v := 38) hx hb dX12_safe_88 (by decide) ?_
              refine lv_icmp_ne (tgt := 116) hx hb dX12_safe_90 (by decide) (fun c_17 => ?_) (fun c_17 => ?_)
              · refine lv_iconst (v := 1) hx hb dX12_safe_116 (by decide) ?_
                refine lv_goto (tgt := 121) hx hb dX12_safe_117 (by decide) ?_
                refine lv_istore (lv' := [(4, .int 1), (3, .int xc_35), (0, .ref oM), (1, .int a), (2, .int 3)]) hx hb dX12_safe_121 hl (by decide) rfl (fun ls hl => ?_)
                refine lv_iload hx hb dX12_safe_123 (lv_at hl 0 rfl) ?_
                refine lv_if_ne (tgt := 130) hx hb dX12_safe_125 (by decide) (fun c_18 => ?_) (fun c_18 => absurd c_18 (by decide))
                obtain ⟨x_19, ex_19⟩ : ∃ y : Int32, y = xc_35 + 1 := ⟨_, rfl⟩
                refine lv_iinc (v := x_19) (lv' := [(3, .int x_19), (4, .int 1), (0, .ref oM), (1, .int a), (2, .int 3)]) hx hb dX12_safe_130 hl (k := 1) rfl (by rw [ex_19]; rfl) (by decide) rfl (fun ls hl => ?_)
                refine lv_goto (tgt := 35) hx hb dX12_safe_133 (by decide) ?_
                exact ih_35 (i_35 + 1) x_19  _ _ _ (by omega) (by rw [ex_19, hxc_35]; exact nI_1 i_35)  (lt_s hok (by rw [← hxc_35]; exact gok_yes (by simp [gis_3, c_2, c_5, c_14, c_17]))) hP hD hS (lv_sub hl [0, 2, 3, 4] rfl)
              · refine lv_iload_n hx hb dX12_safe_93 rfl (lv_at hl 3 rfl) ?_
                refine lv_iconst (v := 3) hx hb dX12_safe_94 (by decide) ?_
                refine lv_icmp_le (tgt := 120) hx hb dX12_safe_95 (by decide) (fun c_20 => ?_) (fun c_20 => absurd (by decide) c_20)
                refine lv_iconst (v := 0) hx hb dX12_safe_120 (by decide) ?_
                refine lv_istore (lv' := [(4, .int 0), (3, .int xc_35), (0, .ref oM), (1, .int a), (2, .int 3)]) hx hb dX12_safe_121 hl (by decide) rfl (fun ls hl => ?_)
                refine lv_iload hx hb dX12_safe_123 (lv_at hl 0 rfl) ?_
                refine lv_if_ne (tgt := 130) hx hb dX12_safe_125 (by decide) (fun c_21 => absurd (by decide) c_21) (fun c_21 => ?_)
                refine lv_iconst (v := 0) hx hb dX12_safe_128 (by decide) ?_
                exact W.iret (v := 0) hx hb hr (fun t ht hW => ⟨⟨0, (), rfl, by rw [g_safe, if_neg c_2, if_neg (show ¬ g_code 3 = 0 by decide), g_all, if_neg c_5, if_neg (p_notall (i := i_35) (by omega) (by rw [← hxc_35]; exact gok_no c_9 (by simp [gis_3, c_2, c_5, c_14, c_17])))], trivial⟩, hS.F ht⟩) (hS.2.2) dX12_safe_129
          · refine lv_goto (tgt := 130) hx hb dX12_safe_51 (by decide) ?_
            obtain ⟨x_22, ex_22⟩ : ∃ y : Int32, y = xc_35 + 1 := ⟨_, rfl⟩
            refine lv_iinc (v := x_22) (lv' := [(3, .int x_22), (0, .ref oM), (1, .int a), (2, .int 3)]) hx hb dX12_safe_130 hl (k := 0) rfl (by rw [ex_22]; rfl) (by decide) rfl (fun ls hl => ?_)
            refine lv_goto (tgt := 35) hx hb dX12_safe_133 (by decide) ?_
            exact ih_35 (i_35 + 1) x_22  _ _ _ (by omega) (by rw [ex_22, hxc_35]; exact nI_1 i_35)  (lt_s hok (by rw [← hxc_35]; exact gok_skip c_9)) hP hD hS (lv_sub hl [0, 1, 2, 3] rfl)
      exact LOOP_35 256 0 0  _ _ _ (by omega) nI_0.symm  (fun j hj => absurd hj (Nat.not_lt_zero j)) hP hD hS (lv_sub hl [0, 1, 2, 3] rfl)
    · refine lv_iconst (v := 1) hx hb dX12_safe_31 (by decide) ?_
      exact W.iret (v := 1) hx hb hr (fun t ht hW => ⟨⟨1, (), rfl, by rw [g_safe, if_neg c_2, if_neg (show ¬ g_code 3 = 0 by decide), g_all, if_pos c_5], trivial⟩, hS.F ht⟩) (hS.2.2) dX12_safe_32

set_option maxHeartbeats 4000000 in
set_option maxRecDepth 100000 in
theorem y_safe_4 (l : Launch) (dC : Nat → ClassId) (dI : Nat → Nat → Nat) (cI cS : ClassId) (sz : Nat) (oM : Nat) (mT : Nat) (mS : Nat) (mX : Nat) (mL : Nat) (mB : Nat) (mD : Nat) (m1 : Nat) (m2 : Nat) (mR : Nat) (x1 : Nat) (x2 : Nat) (x3 : Nat) (mH : Nat) (mY : Nat) (mE : Nat) (mW : Nat) (mO : Nat) (y1 : Nat) (y2 : Nat) (y3 : Nat) (y4 : Nat) (mZ : Nat) (a : Int32)  : Met l yX12_safe wsX12_safe ({ frames := 1, cells := 0, slots := 0, locals := 22 } : Room) (va_Pc [.ref oM, .int a, .int 4] (fun U => U.heap.size = sz ∧ va_P (dC, dI) vwCl [(oM, .inr (12, [.ref mT, .int 0, .ref mS, .ref mX, .int 0, .int 0, .ref mL, .ref mB, .ref mD, .ref m1, .ref m2, .int 0, .ref mR, .int 0, .ref x1, .ref x2, .ref x3, .int 0, .ref mH, .int 0, .int 0, .int 0, .int 0, .int (-1), .int (-1), .int 0, .ref mY, .int 0, .ref mE, .int 0, .int 0, .ref mW, .int 0, .ref mO, .int 0, .ref y1, .ref y2, .ref y3, .ref y4, .ref mZ])), (mL, .inl (cI, 512, .inl (fun _ => (-1))))] U.heap ∧ va_K (dC, dI) vwCl [(cI, .int), (cS, .short)] U ∧ va_D (fun _ => True) [(oM, .inr (12, [.ref mT, .int 0, .ref mS, .ref mX, .int 0, .int 0, .ref mL, .ref mB, .ref mD, .ref m1, .ref m2, .int 0, .ref mR, .int 0, .ref x1, .ref x2, .ref x3, .int 0, .ref mH, .int 0, .int 0, .int 0, .int 0, .int (-1), .int (-1), .int 0, .ref mY, .int 0, .ref mE, .int 0, .int 0, .ref mW, .int 0, .ref mO, .int 0, .ref y1, .ref y2, .ref y3, .ref y4, .ref mZ])), (mL, .inl (cI, 512, .inl (fun _ => (-1))))])) (va_Qi (fun (r : Int32) (_ : Unit) => r = g_safe a 4) (fun _ _ => True) (va_A [(oM, .inr (12, [.ref mT, .int 0, .ref mS, .ref mX, .int 0, .int 0, .ref mL, .ref mB, .ref mD, .ref m1, .ref m2, .int 0, .ref mR, .int 0, .ref x1, .ref x2, .ref x3, .int 0, .ref mH, .int 0, .int 0, .int 0, .int 0, .int (-1), .int (-1), .int 0, .ref mY, .int 0, .ref mE, .int 0, .int 0, .ref mW, .int 0, .ref mO, .int 0, .ref y1, .ref y2, .ref y3, .ref y4, .ref mZ])), (mL, .inl (cI, 512, .inl (fun _ => (-1))))] sz)) 0 0 (va_A [(oM, .inr (12, [.ref mT, .int 0, .ref mS, .ref mX, .int 0, .int 0, .ref mL, .ref mB, .ref mD, .ref m1, .ref m2, .int 0, .ref mR, .int 0, .ref x1, .ref x2, .ref x3, .int 0, .ref mH, .int 0, .int 0, .int 0, .int 0, .int (-1), .int (-1), .int 0, .ref mY, .int 0, .ref mE, .int 0, .int 0, .ref mW, .int 0, .ref mO, .int 0, .ref y1, .ref y2, .ref y3, .ref y4, .ref mZ])), (mL, .inl (cI, 512, .inl (fun _ => (-1))))] sz) := by
  refine Met.ofW (cc := cX12_safe) (maxL := 5) (ret := (some .int)) (by decide) rfl ?_
  intro p e s m args below meth c s₁ B hml hv
  obtain ⟨rfl, hsz, hP, hK, hD0⟩ := hv
  have hx := B.exec
  have hb := B.bytes
  have hr := B.returns
  have hts := atoms_spec (ws := wsX12_safe) B.pre
  have hown : s.vm.findClass RX12 = some m.cls := findClass_of_methodNamed B.named
  have hlocks := B.notSynchronized
  have in_X12 : ∀ w ∈ wsX120, w ∈ wsX12_safe := fun _ h => List.mem_cons_of_mem _ (List.mem_append_right _ (h))
  subst hsz
  have hD := hD0.self (sz := s.heap.size)
  generalize hAe : va_A [(oM, .inr (12, [.ref mT, .int 0, .ref mS, .ref mX, .int 0, .int 0, .ref mL, .ref mB, .ref mD, .ref m1, .ref m2, .int 0, .ref mR, .int 0, .ref x1, .ref x2, .ref x3, .int 0, .ref mH, .int 0, .int 0, .int 0, .int 0, .int (-1), .int (-1), .int 0, .ref mY, .int 0, .ref mE, .int 0, .int 0, .ref mW, .int 0, .ref mO, .int 0, .ref y1, .ref y2, .ref y3, .ref y4, .ref mZ])), (mL, .inl (cI, 512, .inl (fun _ => (-1))))] s.heap.size = A at hD ⊢
  have hA : ∀ q : Nat, s.heap.size ≤ q → A q := fun q h => by rw [← hAe]; exact Or.inr h
  have hS : va_S A s.heap s.heap [] := va_S.rf
  have hP : va_P (dC, dI) vwCl [(oM, .inr (12, [.ref mT, .int 0, .ref mS, .ref mX, .int 0, .int 0, .ref mL, .ref mB, .ref mD, .ref m1, .ref m2, .int 0, .ref mR, .int 0, .ref x1, .ref x2, .ref x3, .int 0, .ref mH, .int 0, .int 0, .int 0, .int 0, .int (-1), .int (-1), .int 0, .ref mY, .int 0, .ref mE, .int 0, .int 0, .ref mW, .int 0, .ref mO, .int 0, .ref y1, .ref y2, .ref y3, .ref y4, .ref mZ])), (mL, .inl (cI, 512, .inl (fun _ => (-1))))] s.heap := hP
  have hl := lv_entry ([.ref oM, .int a, .int 4]) (n := 5) (Nat.le_of_ble_eq_true rfl)
  rw [lg_entry_eq]
  generalize (lg_sl ([.ref oM, .int a, .int 4]) ++ List.replicate (5 - (lg_sl ([.ref oM, .int a, .int 4])).length) Slot.unset).toArray = ls at hl ⊢
  have hl : lv_has ls 5 [(0, .ref oM), (1, .int a), (2, .int 4)] := hl
  refine lv_aload_n hx hb dX12_safe_0 rfl (lv_at hl 0 rfl) ?_
  refine lv_iconst (v := 0) hx hb dX12_safe_1 (by decide) ?_
  refine va_put (D := (dC, dI)) (ci := 12) (v := .int 0) (ty := .int) (C := RX12) (T := TX12) (N := 40) hx hb hts in_X12 tyX12 tyX12_ok nmX12 hown hK hP hD hS 0 rfl rfl 25 (by decide) (hts (.fieldLink RX12 85 "TextMenderModel" "thrown" "I") (List.mem_of_getElem? (i := 1) rfl)) (fun _ h9 => h9) rfl (by decide +kernel) rfl rfl (Nat.le_of_ble_eq_true rfl) dX12_safe_2 (fun H locs hP hD hS => ?_)
  have hP : va_P (dC, dI) vwCl [(oM, .inr (12, [.ref mT, .int 0, .ref mS, .ref mX, .int 0, .int 0, .ref mL, .ref mB, .ref mD, .ref m1, .ref m2, .int 0, .ref mR, .int 0, .ref x1, .ref x2, .ref x3, .int 0, .ref mH, .int 0, .int 0, .int 0, .int 0, .int (-1), .int (-1), .int 0, .ref mY, .int 0, .ref mE, .int 0, .int 0, .ref mW, .int 0, .ref mO, .int 0, .ref y1, .ref y2, .ref y3, .ref y4, .ref mZ])), (mL, .inl (cI, 512, .inl (fun _ => (-1))))] H := hP
  have hD : va_D A [(oM, .inr (12, [.ref mT, .int 0, .ref mS, .ref mX, .int 0, .int 0, .ref mL, .ref mB, .ref mD, .ref m1, .ref m2, .int 0, .ref mR, .int 0, .ref x1, .ref x2, .ref x3, .int 0, .ref mH, .int 0, .int 0, .int 0, .int 0, .int (-1), .int (-1), .int 0, .ref mY, .int 0, .ref mE, .int 0, .int 0, .ref mW, .int 0, .ref mO, .int 0, .ref y1, .ref y2, .ref y3, .ref y4, .ref mZ])), (mL, .inl (cI, 512, .inl (fun _ => (-1))))] := hD
  refine lv_aload_n hx hb dX12_safe_5 rfl (lv_at hl 0 rfl) ?_
  refine lv_iconst (v := (-1)) hx hb dX12_safe_6 (by decide) ?_
  refine va_put (D := (dC, dI)) (ci := 12) (v := .int (-1)) (ty := .int) (C := RX12) (T := TX12) (N := 40) hx hb hts in_X12 tyX12 tyX12_ok nmX12 hown hK hP hD hS 0 rfl rfl 24 (by decide) (hts (.fieldLink RX12 55 "TextMenderModel" "where" "I") (List.mem_of_getElem? (i := 2) rfl)) (fun _ h9 => h9) rfl (by decide +kernel) rfl rfl (Nat.le_of_ble_eq_true rfl) dX12_safe_7 (fun H locs hP hD hS => ?_)
  have hP : va_P (dC, dI) vwCl [(oM, .inr (12, [.ref mT, .int 0, .ref mS, .ref mX, .int 0, .int 0, .ref mL, .ref mB, .ref mD, .ref m1, .ref m2, .int 0, .ref mR, .int 0, .ref x1, .ref x2, .ref x3, .int 0, .ref mH, .int 0, .int 0, .int 0, .int 0, .int (-1), .int (-1), .int 0, .ref mY, .int 0, .ref mE, .int 0, .int 0, .ref mW, .int 0, .ref mO, .int 0, .ref y1, .ref y2, .ref y3, .ref y4, .ref mZ])), (mL, .inl (cI, 512, .inl (fun _ => (-1))))] H := hP
  have hD : va_D A [(oM, .inr (12, [.ref mT, .int 0, .ref mS, .ref mX, .int 0, .int 0, .ref mL, .ref mB, .ref mD, .ref m1, .ref m2, .int 0, .ref mR, .int 0, .ref x1, .ref x2, .ref x3, .int 0, .ref mH, .int 0, .int 0, .int 0, .int 0, .int (-1), .int (-1), .int 0, .ref mY, .int 0, .ref mE, .int 0, .int 0, .ref mW, .int 0, .ref mO, .int 0, .ref y1, .ref y2, .ref y3, .ref y4, .ref mZ])), (mL, .inl (cI, 512, .inl (fun _ => (-1))))] := hD
  refine lv_iload_n hx hb dX12_safe_10 rfl (lv_at hl 1 rfl) ?_
  have hPc := hP.sub (ws' := []) [] rfl
  have hDc := hD.sub (ws' := []) [] (by decide) rfl
  have hFc := va_free (wc := []) hD hS hA [] rfl
  refine va_calli (va_runS (As := [.int a]) (rest := []) ⟨hx, hb, hml, hown, hts⟩ (m_X12_isCode l dC dI cI cS H.size a ) (va_cwS 1 hts gX12_safe_X12_isCode rfl rfl rfl (by decide +kernel) ⟨Nat.le_of_ble_eq_true rfl, Nat.le_of_ble_eq_true rfl⟩) ⟨fun a U g mk q => by obtain ⟨q0, q1, qP, qK, qD⟩ := q; exact ⟨q0, q1, qP, va_K.moved (u := U) (U := U.calling g mk a) (Vm.Alike.refl U.vm) qK, qD⟩, fun U hU hW => ⟨rfl, by rw [hU], by rw [hU]; exact hPc, va_K.moved hW.alike hK, hDc.weaken (fun _ _ _ _ => trivial)⟩⟩ rfl rfl hl.1 rfl (lv_room (Nat.le_of_ble_eq_true rfl)) dX12_safe_11 ⟨Nat.le_of_ble_eq_true rfl, Nat.le_of_ble_eq_true rfl⟩) hS (fun q _ h => hFc q h) hFc (fun r_1 u t H1 locs ht hvm hw hB hz1 hk1 hS => ?_)
  obtain ⟨hP1, hD1⟩ := hB
  rw [ht] at hP1
  obtain ⟨hP, hD⟩ := va_join (wr := [(oM, .inr (12, [.ref mT, .int 0, .ref mS, .ref mX, .int 0, .int 0, .ref mL, .ref mB, .ref mD, .ref m1, .ref m2, .int 0, .ref mR, .int 0, .ref x1, .ref x2, .ref x3, .int 0, .ref mH, .int 0, .int 0, .int 0, .int 0, .int (-1), .int (-1), .int 0, .ref mY, .int 0, .ref mE, .int 0, .int 0, .ref mW, .int 0, .ref mO, .int 0, .ref y1, .ref y2, .ref y3, .ref y4, .ref mZ])), (mL, .inl (cI, 512, .inl (fun _ => (-1))))]) (w1 := []) hP hD [] [0, 1] rfl rfl (by decide) (by decide) hk1 hFc hP1 hD1
  generalize H1 = H at hP hS ⊢
  have hP : va_P (dC, dI) vwCl [(oM, .inr (12, [.ref mT, .int 0, .ref mS, .ref mX, .int 0, .int 0, .ref mL, .ref mB, .ref mD, .ref m1, .ref m2, .int 0, .ref mR, .int 0, .ref x1, .ref x2, .ref x3, .int 0, .ref mH, .int 0, .int 0, .int 0, .int 0, .int (-1), .int (-1), .int 0, .ref mY, .int 0, .ref mE, .int 0, .int 0, .ref mW, .int 0, .ref mO, .int 0, .ref y1, .ref y2, .ref y3, .ref y4, .ref mZ])), (mL, .inl (cI, 512, .inl (fun _ => (-1))))] H := hP
  have hD : va_D A [(oM, .inr (12, [.ref mT, .int 0, .ref mS, .ref mX, .int 0, .int 0, .ref mL, .ref mB, .ref mD, .ref m1, .ref m2, .int 0, .ref mR, .int 0, .ref x1, .ref x2, .ref x3, .int 0, .ref mH, .int 0, .int 0, .int 0, .int 0, .int (-1), .int (-1), .int 0, .ref mY, .int 0, .ref mE, .int 0, .int 0, .ref mW, .int 0, .ref mO, .int 0, .ref y1, .ref y2, .ref y3, .ref y4, .ref mZ])), (mL, .inl (cI, 512, .inl (fun _ => (-1))))] := hD
  rw [hw]
  refine lv_if_eq (tgt := 24) hx hb dX12_safe_14 (by decide) (fun c_2 => ?_) (fun c_2 => ?_)
  · refine lv_iconst (v := (-1)) hx hb dX12_safe_24 (by decide) ?_
    exact W.iret (v := (-1)) hx hb hr (fun t ht hW => ⟨⟨(-1), (), rfl, by rw [g_safe, if_pos c_2], trivial⟩, hS.F ht⟩) (hS.2.2) dX12_safe_25
  · refine lv_iload_n hx hb dX12_safe_17 rfl (lv_at hl 2 rfl) ?_
    have hPc := hP.sub (ws' := []) [] rfl
    have hDc := hD.sub (ws' := []) [] (by decide) rfl
    have hFc := va_free (wc := []) hD hS hA [] rfl
    refine va_calli (va_runS (As := [.int 4]) (rest := []) ⟨hx, hb, hml, hown, hts⟩ (m_X12_isCode l dC dI cI cS H.size 4 ) (va_cwS 1 hts gX12_safe_X12_isCode rfl rfl rfl (by decide +kernel) ⟨Nat.le_of_ble_eq_true rfl, Nat.le_of_ble_eq_true rfl⟩) ⟨fun a U g mk q => by obtain ⟨q0, q1, qP, qK, qD⟩ := q; exact ⟨q0, q1, qP, va_K.moved (u := U) (U := U.calling g mk a) (Vm.Alike.refl U.vm) qK, qD⟩, fun U hU hW => ⟨rfl, by rw [hU], by rw [hU]; exact hPc, va_K.moved hW.alike hK, hDc.weaken (fun _ _ _ _ => trivial)⟩⟩ rfl rfl hl.1 rfl (lv_room (Nat.le_of_ble_eq_true rfl)) dX12_safe_18 ⟨Nat.le_of_ble_eq_true rfl, Nat.le_of_ble_eq_true rfl⟩) hS (fun q _ h => hFc q h) hFc (fun r_3 u t H1 locs ht hvm hw hB hz1 hk1 hS => ?_)
    obtain ⟨hP1, hD1⟩ := hB
    rw [ht] at hP1
    obtain ⟨hP, hD⟩ := va_join (wr := [(oM, .inr (12, [.ref mT, .int 0, .ref mS, .ref mX, .int 0, .int 0, .ref mL, .ref mB, .ref mD, .ref m1, .ref m2, .int 0, .ref mR, .int 0, .ref x1, .ref x2, .ref x3, .int 0, .ref mH, .int 0, .int 0, .int 0, .int 0, .int (-1), .int (-1), .int 0, .ref mY, .int 0, .ref mE, .int 0, .int 0, .ref mW, .int 0, .ref mO, .int 0, .ref y1, .ref y2, .ref y3, .ref y4, .ref mZ])), (mL, .inl (cI, 512, .inl (fun _ => (-1))))]) (w1 := []) hP hD [] [0, 1] rfl rfl (by decide) (by decide) hk1 hFc hP1 hD1
    generalize H1 = H at hP hS ⊢
    have hP : va_P (dC, dI) vwCl [(oM, .inr (12, [.ref mT, .int 0, .ref mS, .ref mX, .int 0, .int 0, .ref mL, .ref mB, .ref mD, .ref m1, .ref m2, .int 0, .ref mR, .int 0, .ref x1, .ref x2, .ref x3, .int 0, .ref mH, .int 0, .int 0, .int 0, .int 0, .int (-1), .int (-1), .int 0, .ref mY, .int 0, .ref mE, .int 0, .int 0, .ref mW, .int 0, .ref mO, .int 0, .ref y1, .ref y2, .ref y3, .ref y4, .ref mZ])), (mL, .inl (cI, 512, .inl (fun _ => (-1))))] H := hP
    have hD : va_D A [(oM, .inr (12, [.ref mT, .int 0, .ref mS, .ref mX, .int 0, .int 0, .ref mL, .ref mB, .ref mD, .ref m1, .ref m2, .int 0, .ref mR, .int 0, .ref x1, .ref x2, .ref x3, .int 0, .ref mH, .int 0, .int 0, .int 0, .int 0, .int (-1), .int (-1), .int 0, .ref mY, .int 0, .ref mE, .int 0, .int 0, .ref mW, .int 0, .ref mO, .int 0, .ref y1, .ref y2, .ref y3, .ref y4, .ref mZ])), (mL, .inl (cI, 512, .inl (fun _ => (-1))))] := hD
    rw [hw]
    refine lv_if_ne (tgt := 26) hx hb dX12_safe_21 (by decide) (fun c_4 => ?_) (fun c_4 => absurd c_4 (by decide))
    refine lv_iload_n hx hb dX12_safe_26 rfl (lv_at hl 1 rfl) ?_
    refine lv_iload_n hx hb dX12_safe_27 rfl (lv_at hl 2 rfl) ?_
    refine lv_icmp_ne (tgt := 33) hx hb dX12_safe_28 (by decide) (fun c_5 => ?_) (fun c_5 => ?_)
    · refine lv_iconst (v := 0) hx hb dX12_safe_33 (by decide) ?_
      refine lv_istore_n (lv' := [(3, .int 0), (0, .ref oM), (1, .int a), (2, .int 4)]) hx hb dX12_safe_34 rfl hl (by decide) rfl (fun ls hl => ?_)
      have LOOP_35 : ∀ (k_35 i_35 : Nat) (xc_35 : Int32)  (H : Heap) (locs : List Loc) (ls : Array Slot), i_35 + k_35 = 256 → xc_35 = nI i_35 →  (∀ j, j < i_35 → g_ok a 4 (nI j) = true) → va_P (dC, dI) vwCl [(oM, .inr (12, [.ref mT, .int 0, .ref mS, .ref mX, .int 0, .int 0, .ref mL, .ref mB, .ref mD, .ref m1, .ref m2, .int 0, .ref mR, .int 0, .ref x1, .ref x2, .ref x3, .int 0, .ref mH, .int 0, .int 0, .int 0, .int 0, .int (-1), .int (-1), .int 0, .ref mY, .int 0, .ref mE, .int 0, .int 0, .ref mW, .int 0, .ref mO, .int 0, .ref y1, .ref y2, .ref y3, .ref y4, .ref mZ])), (mL, .inl (cI, 512, .inl (fun _ => (-1))))] H → va_D A [(oM, .inr (12, [.ref mT, .int 0, .ref mS, .ref mX, .int 0, .int 0, .ref mL, .ref mB, .ref mD, .ref m1, .ref m2, .int 0, .ref mR, .int 0, .ref x1, .ref x2, .ref x3, .int 0, .ref mH, .int 0, .int 0, .int 0, .int 0, .int (-1), .int (-1), .int 0, .ref mY, .int 0, .ref mE, .int 0, .int 0, .ref mW, .int 0, .ref mO, .int 0, .ref y1, .ref y2, .ref y3, .ref y4, .ref mZ])), (mL, .inl (cI, 512, .inl (fun _ => (-1))))] → va_S A s.heap H locs → lv_has ls 5 [(3, .int xc_35), (0, .ref oM), (1, .int a), (2, .int 4)] → W p l e (headSpec wsX12_safe ({ frames := 1, cells := 0, slots := 0, locals := 22 } : Room)).room s m ([.ref oM, .int a, .int 4] : List Value).toArray below meth c H locs 0 0 (MQ below (va_Qi (fun (r : Int32) (_ : Unit) => r = g_safe a 4) (fun _ _ => True) A) ([.ref oM, .int a, .int 4] : List Value).toArray s 0 0 A) (F0 m 35 ls []) := by
        intro k_35
        induction k_35 with
        | zero =>
          intro i_35 xc_35  H locs ls hi_35 hxc_35  hok hP hD hS hl
          have hi2_35 : i_35 = 256 := by omega
          refine lv_iload_n hx hb dX12_safe_35 rfl (lv_at hl 0 rfl) ?_
          refine lv_sipush (v := 256) hx hb dX12_safe_36 (by decide) ?_
          refine lv_icmp_ge (tgt := 136) hx hb dX12_safe_39 (by decide) (fun c_6 => ?_) (fun c_6 => absurd (by rw [hxc_35]; exact nI_le (a := 256) (b := i_35) (by omega) (by rw [hi2_35]; exact (by decide))) c_6)
          refine lv_iconst (v := 1) hx hb dX12_safe_136 (by decide) ?_
          exact W.iret (v := 1) hx hb hr (fun t ht hW => ⟨⟨1, (), rfl, by rw [g_safe, if_neg c_2, if_neg (show ¬ g_code 4 = 0 by decide), g_all, if_neg c_5, if_pos (p_all (fun j hj => hok j (by omega)))], trivial⟩, hS.F ht⟩) (hS.2.2) dX12_safe_137
        | succ k_35 ih_35 =>
          intro i_35 xc_35  H locs ls hi_35 hxc_35  hok hP hD hS hl
          refine lv_iload_n hx hb dX12_safe_35 rfl (lv_at hl 0 rfl) ?_
          refine lv_sipush (v := 256) hx hb dX12_safe_36 (by decide) ?_
          refine lv_icmp_ge (tgt := 136) hx hb dX12_safe_39 (by decide) (fun c_7 => absurd c_7 (by rw [hxc_35]; exact nI_ge (a := i_35) (b := 256) (by omega) (by decide))) (fun c_7 => ?_)
          refine lv_aload_n hx hb dX12_safe_42 rfl (lv_at hl 1 rfl) ?_
          refine lv_iload_n hx hb dX12_safe_43 rfl (lv_at hl 2 rfl) ?_
          refine lv_iload_n hx hb dX12_safe_44 rfl (lv_at hl 0 rfl) ?_
          have hPc := hP.sub (ws' := [(oM, .inr (12, [.ref mT, .int 0, .ref mS, .ref mX, .int 0, .int 0, .ref mL, .ref mB, .ref mD, .ref m1, .ref m2, .int 0, .ref mR, .int 0, .ref x1, .ref x2, .ref x3, .int 0, .ref mH, .int 0, .int 0, .int 0, .int 0, .int (-1), .int (-1), .int 0, .ref mY, .int 0, .ref mE, .int 0, .int 0, .ref mW, .int 0, .ref mO, .int 0, .ref y1, .ref y2, .ref y3, .ref y4, .ref mZ])), (mL, .inl (cI, 512, .inl (fun _ => (-1))))]) [0, 1] rfl
          have hDc := hD.sub (ws' := [(oM, .inr (12, [.ref mT, .int 0, .ref mS, .ref mX, .int 0, .int 0, .ref mL, .ref mB, .ref mD, .ref m1, .ref m2, .int 0, .ref mR, .int 0, .ref x1, .ref x2, .ref x3, .int 0, .ref mH, .int 0, .int 0, .int 0, .int 0, .int (-1), .int (-1), .int 0, .ref mY, .int 0, .ref mE, .int 0, .int 0, .ref mW, .int 0, .ref mO, .int 0, .ref y1, .ref y2, .ref y3, .ref y4, .ref mZ])), (mL, .inl (cI, 512, .inl (fun _ => (-1))))]) [0, 1] (by decide) rfl
          have hFc := va_free (wc := [(oM, .inr (12, [.ref mT, .int 0, .ref mS, .ref mX, .int 0, .int 0, .ref mL, .ref mB, .ref mD, .ref m1, .ref m2, .int 0, .ref mR, .int 0, .ref x1, .ref x2, .ref x3, .int 0, .ref mH, .int 0, .int 0, .int 0, .int 0, .int (-1), .int (-1), .int 0, .ref mY, .int 0, .ref mE, .int 0, .int 0, .ref mW, .int 0, .ref mO, .int 0, .ref y1, .ref y2, .ref y3, .ref y4, .ref mZ])), (mL, .inl (cI, 512, .inl (fun _ => (-1))))]) hD hS hA [0, 1] rfl
          refine va_calli (va_runV (As := [.int a, .int xc_35]) (rest := []) ⟨hx, hb, hml, hown, hts⟩ (m_X12_canCome l dC dI cI cS H.size oM mT mS mX mL mB mD m1 m2 mR x1 x2 x3 mH mY mE mW mO y1 y2 y3 y4 mZ a xc_35 i_35 (p_code c_2) (hxc_35) (by omega)) (cwV 2 hts gX12_safe_X12_canCome rfl rfl rfl (by decide +kernel) ⟨Nat.le_of_ble_eq_true rfl, Nat.le_of_ble_eq_true rfl⟩) ⟨fun a U g mk q => by obtain ⟨q0, q1, qP, qK, qD⟩ := q; exact ⟨q0, q1, qP, va_K.moved (u := U) (U := U.calling g mk a) (Vm.Alike.refl U.vm) qK, qD⟩, va_recv hK hPc (ci := 12) (q0 := 0) rfl rfl, fun U hU hW => ⟨rfl, by rw [hU], by rw [hU]; exact hPc, va_K.moved hW.alike hK, hDc.weaken (fun _ _ _ _ => trivial)⟩⟩ rfl rfl hl.1 rfl (lv_room (Nat.le_of_ble_eq_true rfl)) dX12_safe_45 ⟨Nat.le_of_ble_eq_true rfl, Nat.le_of_ble_eq_true rfl⟩) hS (fun q _ h => hFc q h) hFc (fun r_8 u t H1 locs ht hvm hw hB hz1 hk1 hS => ?_)
          obtain ⟨hP1, hD1⟩ := hB
          rw [ht] at hP1
          obtain ⟨hP, hD⟩ := va_join (wr := []) (w1 := [(oM, .inr (12, [.ref mT, .int 0, .ref mS, .ref mX, .int 0, .int 0, .ref mL, .ref mB, .ref mD, .ref m1, .ref m2, .int 0, .ref mR, .int 0, .ref x1, .ref x2, .ref x3, .int 0, .ref mH, .int 0, .int 0, .int 0, .int 0, .int (-1), .int (-1), .int 0, .ref mY, .int 0, .ref mE, .int 0, .int 0, .ref mW, .int 0, .ref mO, .int 0, .ref y1, .ref y2, .ref y3, .ref y4, .ref mZ])), (mL, .inl (cI, 512, .inl (fun _ => (-1))))]) hP hD [0, 1] [] rfl rfl (by decide) (by decide) hk1 hFc hP1 hD1
          generalize H1 = H at hP hS ⊢
          have hP : va_P (dC, dI) vwCl [(oM, .inr (12, [.ref mT, .int 0, .ref mS, .ref mX, .int 0, .int 0, .ref mL, .ref mB, .ref mD, .ref m1, .ref m2, .int 0, .ref mR, .int 0, .ref x1, .ref x2, .ref x3, .int 0, .ref mH, .int 0, .int 0, .int 0, .int 0, .int (-1), .int (-1), .int 0, .ref mY, .int 0, .ref mE, .int 0, .int 0, .ref mW, .int 0, .ref mO, .int 0, .ref y1, .ref y2, .ref y3, .ref y4, .ref mZ])), (mL, .inl (cI, 512, .inl (fun _ => (-1))))] H := hP
          have hD : va_D A [(oM, .inr (12, [.ref mT, .int 0, .ref mS, .ref mX, .int 0, .int 0, .ref mL, .ref mB, .ref mD, .ref m1, .ref m2, .int 0, .ref mR, .int 0, .ref x1, .ref x2, .ref x3, .int 0, .ref mH, .int 0, .int 0, .int 0, .int 0, .int (-1), .int (-1), .int 0, .ref mY, .int 0, .ref mE, .int 0, .int 0, .ref mW, .int 0, .ref mO, .int 0, .ref y1, .ref y2, .ref y3, .ref y4, .ref mZ])), (mL, .inl (cI, 512, .inl (fun _ => (-1))))] := hD
          rw [hw]
          refine lv_if_ne (tgt := 54) hx hb dX12_safe_48 (by decide) (fun c_9 => ?_) (fun c_9 => ?_)
          · refine lv_iload_n hx hb dX12_safe_54 rfl (lv_at hl 3 rfl) ?_
            refine lv_iconst (v := 1) hx hb dX12_safe_55 (by decide) ?_
            refine lv_icmp_eq (tgt := 116) hx hb dX12_safe_56 (by decide) (fun c_10 => absurd c_10 (by decide)) (fun c_10 => ?_)
            refine lv_iload_n hx hb dX12_safe_59 rfl (lv_at hl 3 rfl) ?_
            refine lv_if_eq (tgt := 68) hx hb dX12_safe_60 (by decide) (fun c_11 => absurd c_11 (by decide)) (fun c_11 => ?_)
            refine lv_iload_n hx hb dX12_safe_63 rfl (lv_at hl 3 rfl) ?_
            refine lv_iconst (v := 2) hx hb dX12_safe_64 (by decide) ?_
            refine lv_icmp_ne (tgt := 75) hx hb dX12_safe_65 (by decide) (fun c_12 => ?_) (fun c_12 => absurd c_12 (by decide))
            refine lv_iload_n hx hb dX12_safe_75 rfl (lv_at hl 3 rfl) ?_
            refine lv_iconst (v := 3) hx hb dX12_safe_76 (by decide) ?_
            refine lv_icmp_ne (tgt := 93) hx hb dX12_safe_77 (by decide) (fun c_13 => ?_) (fun c_13 => absurd c_13 (by decide))
            refine lv_iload_n hx hb dX12_safe_93 rfl (lv_at hl 3 rfl) ?_
            refine lv_iconst (v := 3) hx hb dX12_safe_94 (by decide) ?_
            refine lv_icmp_le (tgt := 120) hx hb dX12_safe_95 (by decide) (fun c_14 => absurd c_14 (by decide)) (fun c_14 => ?_)
            refine lv_aload_n hx hb dX12_safe_98 rfl (lv_at hl 1 rfl) ?_
            refine va_get (D := (dC, dI)) (ci := 12) (v := .ref mL) (C := RX12) (T := TX12) (N := 40) hx hb hts in_X12 hown hK hP 0 rfl rfl 6 (by decide) (hts (.fieldLink RX12 19 "TextMenderModel" "letterOf" "[I") (List.mem_of_getElem? (i := 3) rfl)) (fun _ h9 => h9) rfl dX12_safe_99 ?_
            refine lv_sipush (v := 256) hx hb dX12_safe_102 (by decide) ?_
            refine lv_iload_n hx hb dX12_safe_105 rfl (lv_at hl 3 rfl) ?_
            refine lv_iconst (v := 4) hx hb dX12_safe_106 (by decide) ?_
            refine lv_isub hx hb dX12_safe_107 ?_
            refine k_i (y := 0) (by decide) ?_
            refine lv_imul hx hb dX12_safe_108 ?_
            refine k_i (y := 0) (by decide) ?_
            refine lv_iload_n hx hb dX12_safe_109 rfl (lv_at hl 0 rfl) ?_
            refine lv_iadd hx hb dX12_safe_110 ?_
            refine lv_topi (fun x_15 ex_15 => ?_)
            refine va_iald hx hb hK hP 1 0 rfl rfl (p_inadd 0 i_35 512 ex_15 rfl hxc_35 (by omega) (by decide)) dX12_safe_111 ?_
            refine k_i (y := (-1)) rfl ?_
            refine lv_iconst (v := (-1)) hx hb dX12_safe_112 (by decide) ?_
            refine lv_icmp_eq (tgt := 120) hx hb dX12_safe_113 (by decide) (fun c_16 => ?_) (fun c_16 => absurd (by decide) c_16)
            refine lv_iconst (v := 0) hx hb dX12_safe_120 (by decide) ?_
            refine lv_istore (lv' := [(4, .int 0), (3, .int xc_35), (0, .ref oM), (1, .int a), (2, .int 4)]) hx hb dX12_safe_121 hl (by decide) rfl (fun ls hl => ?_)
            refine lv_iload hx hb dX12_safe_123 (lv_at hl 0 rfl) ?_
            refine lv_if_ne (tgt := 130) hx hb dX12_safe_125 (by decide) (fun c_17 => absurd (by decide) c_17) (fun c_17 => ?_)
            refine lv_iconst (v := 0) hx hb dX12_safe_128 (by decide) ?_
            exact W.iret (v := 0) hx hb hr (fun t ht hW => ⟨⟨0, (), rfl, by rw [g_safe, if_neg c_2, if_neg (show ¬ g_code 4 = 0 by decide), g_all, if_neg c_5, if_neg (p_notall (i := i_35) (by omega) (by rw [← hxc_35]; exact gok_no c_9 (by simp [gis_4, c_2, c_5])))], trivial⟩, hS.F ht⟩) (hS.2.2) dX12_safe_129
          · refine lv_goto (tgt := 130) hx hb dX12_safe_51 (by decide) ?_
            obtain ⟨x_18, ex_18⟩ : ∃ y : Int32, y = xc_35 + 1 := ⟨_, rfl⟩
            refine lv_iinc (v := x_18) (lv' := [(3, .int x_18), (0, .ref oM), (1, .int a), (2, .int 4)]) hx hb dX12_safe_130 hl (k := 0) rfl (by rw [ex_18]; rfl) (by decide) rfl (fun ls hl => ?_)
            refine lv_goto (tgt := 35) hx hb dX12_safe_133 (by decide) ?_
            exact ih_35 (i_35 + 1) x_18  _ _ _ (by omega) (by rw [ex_18, hxc_35]; exact nI_1 i_35)  (lt_s hok (by rw [← hxc_35]; exact gok_skip c_9)) hP hD hS (lv_sub hl [0, 1, 2, 3] rfl)
      exact LOOP_35 256 0 0  _ _ _ (by omega) nI_0.symm  (fun j hj => absurd hj (Nat.not_lt_zero j)) hP hD hS (lv_sub hl [0, 1, 2, 3] rfl)
    · refine lv_iconst (v := 1) hx hb dX12_safe_31 (by decide) ?_
      exact W.iret (v := 1) hx hb hr (fun t ht hW => ⟨⟨1, (), rfl, by rw [g_safe, if_neg c_2, if_neg (show ¬ g_code 4 = 0 by decide), g_all, if_pos c_5], trivial⟩, hS.F ht⟩) (hS.2.2) dX12_safe_32

set_option maxHeartbeats 4000000 in
set_option maxRecDepth 100000 in
theorem y_safe_5 (l : Launch) (dC : Nat → ClassId) (dI : Nat → Nat → Nat) (cI cS : ClassId) (sz : Nat) (oM : Nat) (mT : Nat) (mS : Nat) (mX : Nat) (mL : Nat) (mB : Nat) (mD : Nat) (m1 : Nat) (m2 : Nat) (mR : Nat) (x1 : Nat) (x2 : Nat) (x3 : Nat) (mH : Nat) (mY : Nat) (mE : Nat) (mW : Nat) (mO : Nat) (y1 : Nat) (y2 : Nat) (y3 : Nat) (y4 : Nat) (mZ : Nat) (a : Int32)  : Met l yX12_safe wsX12_safe ({ frames := 1, cells := 0, slots := 0, locals := 22 } : Room) (va_Pc [.ref oM, .int a, .int 5] (fun U => U.heap.size = sz ∧ va_P (dC, dI) vwCl [(oM, .inr (12, [.ref mT, .int 0, .ref mS, .ref mX, .int 0, .int 0, .ref mL, .ref mB, .ref mD, .ref m1, .ref m2, .int 0, .ref mR, .int 0, .ref x1, .ref x2, .ref x3, .int 0, .ref mH, .int 0, .int 0, .int 0, .int 0, .int (-1), .int (-1), .int 0, .ref mY, .int 0, .ref mE, .int 0, .int 0, .ref mW, .int 0, .ref mO, .int 0, .ref y1, .ref y2, .ref y3, .ref y4, .ref mZ])), (mL, .inl (cI, 512, .inl (fun _ => (-1))))] U.heap ∧ va_K (dC, dI) vwCl [(cI, .int), (cS, .short)] U ∧ va_D (fun _ => True) [(oM, .inr (12, [.ref mT, .int 0, .ref mS, .ref mX, .int 0, .int 0, .ref mL, .ref mB, .ref mD, .ref m1, .ref m2, .int 0, .ref mR, .int 0, .ref x1, .ref x2, .ref x3, .int 0, .ref mH, .int 0, .int 0, .int 0, .int 0, .int (-1), .int (-1), .int 0, .ref mY, .int 0, .ref mE, .int 0, .int 0, .ref mW, .int 0, .ref mO, .int 0, .ref y1, .ref y2, .ref y3, .ref y4, .ref mZ])), (mL, .inl (cI, 512, .inl (fun _ => (-1))))])) (va_Qi (fun (r : Int32) (_ : Unit) => r = g_safe a 5) (fun _ _ => True) (va_A [(oM, .inr (12, [.ref mT, .int 0, .ref mS, .ref mX, .int 0, .int 0, .ref mL, .ref mB, .ref mD, .ref m1, .ref m2, .int 0, .ref mR, .int 0, .ref x1, .ref x2, .ref x3, .int 0, .ref mH, .int 0, .int 0, .int 0, .int 0, .int (-1), .int (-1), .int 0, .ref mY, .int 0, .ref mE, .int 0, .int 0, .ref mW, .int 0, .ref mO, .int 0, .ref y1, .ref y2, .ref y3, .ref y4, .ref mZ])), (mL, .inl (cI, 512, .inl (fun _ => (-1))))] sz)) 0 0 (va_A [(oM, .inr (12, [.ref mT, .int 0, .ref mS, .ref mX, .int 0, .int 0, .ref mL, .ref mB, .ref mD, .ref m1, .ref m2, .int 0, .ref mR, .int 0, .ref x1, .ref x2, .ref x3, .int 0, .ref mH, .int 0, .int 0, .int 0, .int 0, .int (-1), .int (-1), .int 0, .ref mY, .int 0, .ref mE, .int 0, .int 0, .ref mW, .int 0, .ref mO, .int 0, .ref y1, .ref y2, .ref y3, .ref y4, .ref mZ])), (mL, .inl (cI, 512, .inl (fun _ => (-1))))] sz) := by
  refine Met.ofW (cc := cX12_safe) (maxL := 5) (ret := (some .int)) (by decide) rfl ?_
  intro p e s m args below meth c s₁ B hml hv
  obtain ⟨rfl, hsz, hP, hK, hD0⟩ := hv
  have hx := B.exec
  have hb := B.bytes
  have hr := B.returns
  have hts := atoms_spec (ws := wsX12_safe) B.pre
  have hown : s.vm.findClass RX12 = some m.cls := findClass_of_methodNamed B.named
  have hlocks := B.notSynchronized
  have in_X12 : ∀ w ∈ wsX120, w ∈ wsX12_safe := fun _ h => List.mem_cons_of_mem _ (List.mem_append_right _ (h))
  subst hsz
  have hD := hD0.self (sz := s.heap.size)
  generalize hAe : va_A [(oM, .inr (12, [.ref mT, .int 0, .ref mS, .ref mX, .int 0, .int 0, .ref mL, .ref mB, .ref mD, .ref m1, .ref m2, .int 0, .ref mR, .int 0, .ref x1, .ref x2, .ref x3, .int 0, .ref mH, .int 0, .int 0, .int 0, .int 0, .int (-1), .int (-1), .int 0, .ref mY, .int 0, .ref mE, .int 0, .int 0, .ref mW, .int 0, .ref mO, .int 0, .ref y1, .ref y2, .ref y3, .ref y4, .ref mZ])), (mL, .inl (cI, 512, .inl (fun _ => (-1))))] s.heap.size = A at hD ⊢
  have hA : ∀ q : Nat, s.heap.size ≤ q → A q := fun q h => by rw [← hAe]; exact Or.inr h
  have hS : va_S A s.heap s.heap [] := va_S.rf
  have hP : va_P (dC, dI) vwCl [(oM, .inr (12, [.ref mT, .int 0, .ref mS, .ref mX, .int 0, .int 0, .ref mL, .ref mB, .ref mD, .ref m1, .ref m2, .int 0, .ref mR, .int 0, .ref x1, .ref x2, .ref x3, .int 0, .ref mH, .int 0, .int 0, .int 0, .int 0, .int (-1), .int (-1), .int 0, .ref mY, .int 0, .ref mE, .int 0, .int 0, .ref mW, .int 0, .ref mO, .int 0, .ref y1, .ref y2, .ref y3, .ref y4, .ref mZ])), (mL, .inl (cI, 512, .inl (fun _ => (-1))))] s.heap := hP
  have hl := lv_entry ([.ref oM, .int a, .int 5]) (n := 5) (Nat.le_of_ble_eq_true rfl)
  rw [lg_entry_eq]
  generalize (lg_sl ([.ref oM, .int a, .int 5]) ++ List.replicate (5 - (lg_sl ([.ref oM, .int a, .int 5])).length) Slot.unset).toArray = ls at hl ⊢
  have hl : lv_has ls 5 [(0, .ref oM), (1, .int a), (2, .int 5)] := hl
  refine lv_aload_n hx hb dX12_safe_0 rfl (lv_at hl 0 rfl) ?_
  refine lv_iconst (v := 0) hx hb dX12_safe_1 (by decide) ?_
  refine va_put (D := (dC, dI)) (ci := 12) (v := .int 0) (ty := .int) (C := RX12) (T := TX12) (N := 40) hx hb hts in_X12 tyX12 tyX12_ok nmX12 hown hK hP hD hS 0 rfl rfl 25 (by decide) (hts (.fieldLink RX12 85 "TextMenderModel" "thrown" "I") (List.mem_of_getElem? (i := 1) rfl)) (fun _ h9 => h9) rfl (by decide +kernel) rfl rfl (Nat.le_of_ble_eq_true rfl) dX12_safe_2 (fun H locs hP hD hS => ?_)
  have hP : va_P (dC, dI) vwCl [(oM, .inr (12, [.ref mT, .int 0, .ref mS, .ref mX, .int 0, .int 0, .ref mL, .ref mB, .ref mD, .ref m1, .ref m2, .int 0, .ref mR, .int 0, .ref x1, .ref x2, .ref x3, .int 0, .ref mH, .int 0, .int 0, .int 0, .int 0, .int (-1), .int (-1), .int 0, .ref mY, .int 0, .ref mE, .int 0, .int 0, .ref mW, .int 0, .ref mO, .int 0, .ref y1, .ref y2, .ref y3, .ref y4, .ref mZ])), (mL, .inl (cI, 512, .inl (fun _ => (-1))))] H := hP
  have hD : va_D A [(oM, .inr (12, [.ref mT, .int 0, .ref mS, .ref mX, .int 0, .int 0, .ref mL, .ref mB, .ref mD, .ref m1, .ref m2, .int 0, .ref mR, .int 0, .ref x1, .ref x2, .ref x3, .int 0, .ref mH, .int 0, .int 0, .int 0, .int 0, .int (-1), .int (-1), .int 0, .ref mY, .int 0, .ref mE, .int 0, .int 0, .ref mW, .int 0, .ref mO, .int 0, .ref y1, .ref y2, .ref y3, .ref y4, .ref mZ])), (mL, .inl (cI, 512, .inl (fun _ => (-1))))] := hD
  refine lv_aload_n hx hb dX12_safe_5 rfl (lv_at hl 0 rfl) ?_
  refine lv_iconst (v := (-1)) hx hb dX12_safe_6 (by decide) ?_
  refine va_put (D := (dC, dI)) (ci := 12) (v := .int (-1)) (ty := .int) (C := RX12) (T := TX12) (N := 40) hx hb hts in_X12 tyX12 tyX12_ok nmX12 hown hK hP hD hS 0 rfl rfl 24 (by decide) (hts (.fieldLink RX12 55 "TextMenderModel" "where" "I") (List.mem_of_getElem? (i := 2) rfl)) (fun _ h9 => h9) rfl (by decide +kernel) rfl rfl (Nat.le_of_ble_eq_true rfl) dX12_safe_7 (fun H locs hP hD hS => ?_)
  have hP : va_P (dC, dI) vwCl [(oM, .inr (12, [.ref mT, .int 0, .ref mS, .ref mX, .int 0, .int 0, .ref mL, .ref mB, .ref mD, .ref m1, .ref m2, .int 0, .ref mR, .int 0, .ref x1, .ref x2, .ref x3, .int 0, .ref mH, .int 0, .int 0, .int 0, .int 0, .int (-1), .int (-1), .int 0, .ref mY, .int 0, .ref mE, .int 0, .int 0, .ref mW, .int 0, .ref mO, .int 0, .ref y1, .ref y2, .ref y3, .ref y4, .ref mZ])), (mL, .inl (cI, 512, .inl (fun _ => (-1))))] H := hP
  have hD : va_D A [(oM, .inr (12, [.ref mT, .int 0, .ref mS, .ref mX, .int 0, .int 0, .ref mL, .ref mB, .ref mD, .ref m1, .ref m2, .int 0, .ref mR, .int 0, .ref x1, .ref x2, .ref x3, .int 0, .ref mH, .int 0, .int 0, .int 0, .int 0, .int (-1), .int (-1), .int 0, .ref mY, .int 0, .ref mE, .int 0, .int 0, .ref mW, .int 0, .ref mO, .int 0, .ref y1, .ref y2, .ref y3, .ref y4, .ref mZ])), (mL, .inl (cI, 512, .inl (fun _ => (-1))))] := hD
  refine lv_iload_n hx hb dX12_safe_10 rfl (lv_at hl 1 rfl) ?_
  have hPc := hP.sub (ws' := []) [] rfl
  have hDc := hD.sub (ws' := []) [] (by decide) rfl
  have hFc := va_free (wc := []) hD hS hA [] rfl
  refine va_calli (va_runS (As := [.int a]) (rest := []) ⟨hx, hb, hml, hown, hts⟩ (m_X12_isCode l dC dI cI cS H.size a ) (va_cwS 1 hts gX12_safe_X12_isCode rfl rfl rfl (by decide +kernel) ⟨Nat.le_of_ble_eq_true rfl, Nat.le_of_ble_eq_true rfl⟩) ⟨fun a U g mk q => by obtain ⟨q0, q1, qP, qK, qD⟩ := q; exact ⟨q0, q1, qP, va_K.moved (u := U) (U := U.calling g mk a) (Vm.Alike.refl U.vm) qK, qD⟩, fun U hU hW => ⟨rfl, by rw [hU], by rw [hU]; exact hPc, va_K.moved hW.alike hK, hDc.weaken (fun _ _ _ _ => trivial)⟩⟩ rfl rfl hl.1 rfl (lv_room (Nat.le_of_ble_eq_true rfl)) dX12_safe_11 ⟨Nat.le_of_ble_eq_true rfl, Nat.le_of_ble_eq_true rfl⟩) hS (fun q _ h => hFc q h) hFc (fun r_1 u t H1 locs ht hvm hw hB hz1 hk1 hS => ?_)
  obtain ⟨hP1, hD1⟩ := hB
  rw [ht] at hP1
  obtain ⟨hP, hD⟩ := va_join (wr := [(oM, .inr (12, [.ref mT, .int 0, .ref mS, .ref mX, .int 0, .int 0, .ref mL, .ref mB, .ref mD, .ref m1, .ref m2, .int 0, .ref mR, .int 0, .ref x1, .ref x2, .ref x3, .int 0, .ref mH, .int 0, .int 0, .int 0, .int 0, .int (-1), .int (-1), .int 0, .ref mY, .int 0, .ref mE, .int 0, .int 0, .ref mW, .int 0, .ref mO, .int 0, .ref y1, .ref y2, .ref y3, .ref y4, .ref mZ])), (mL, .inl (cI, 512, .inl (fun _ => (-1))))]) (w1 := []) hP hD [] [0, 1] rfl rfl (by decide) (by decide) hk1 hFc hP1 hD1
  generalize H1 = H at hP hS ⊢
  have hP : va_P (dC, dI) vwCl [(oM, .inr (12, [.ref mT, .int 0, .ref mS, .ref mX, .int 0, .int 0, .ref mL, .ref mB, .ref mD, .ref m1, .ref m2, .int 0, .ref mR, .int 0, .ref x1, .ref x2, .ref x3, .int 0, .ref mH, .int 0, .int 0, .int 0, .int 0, .int (-1), .int (-1), .int 0, .ref mY, .int 0, .ref mE, .int 0, .int 0, .ref mW, .int 0, .ref mO, .int 0, .ref y1, .ref y2, .ref y3, .ref y4, .ref mZ])), (mL, .inl (cI, 512, .inl (fun _ => (-1))))] H := hP
  have hD : va_D A [(oM, .inr (12, [.ref mT, .int 0, .ref mS, .ref mX, .int 0, .int 0, .ref mL, .ref mB, .ref mD, .ref m1, .ref m2, .int 0, .ref mR, .int 0, .ref x1, .ref x2, .ref x3, .int 0, .ref mH, .int 0, .int 0, .int 0, .int 0, .int (-1), .int (-1), .int 0, .ref mY, .int 0, .ref mE, .int 0, .int 0, .ref mW, .int 0, .ref mO, .int 0, .ref y1, .ref y2, .ref y3, .ref y4, .ref mZ])), (mL, .inl (cI, 512, .inl (fun _ => (-1))))] := hD
  rw [hw]
  refine lv_if_eq (tgt := 24) hx hb dX12_safe_14 (by decide) (fun c_2 => ?_) (fun c_2 => ?_)
  · refine lv_iconst (v := (-1)) hx hb dX12_safe_24 (by decide) ?_
    exact W.iret (v := (-1)) hx hb hr (fun t ht hW => ⟨⟨(-1), (), rfl, by rw [g_safe, if_pos c_2], trivial⟩, hS.F ht⟩) (hS.2.2) dX12_safe_25
  · refine lv_iload_n hx hb dX12_safe_17 rfl (lv_at hl 2 rfl) ?_
    have hPc := hP.sub (ws' := []) [] rfl
    have hDc := hD.sub (ws' := []) [] (by decide) rfl
    have hFc := va_free (wc := []) hD hS hA [] rfl
    refine va_calli (va_runS (As := [.int 5]) (rest := []) ⟨hx, hb, hml, hown, hts⟩ (m_X12_isCode l dC dI cI cS H.size 5 ) (va_cwS 1 hts gX12_safe_X12_isCode rfl rfl rfl (by decide +kernel) ⟨Nat.le_of_ble_eq_true rfl, Nat.le_of_ble_eq_true rfl⟩) ⟨fun a U g mk q => by obtain ⟨q0, q1, qP, qK, qD⟩ := q; exact ⟨q0, q1, qP, va_K.moved (u := U) (U := U.calling g mk a) (Vm.Alike.refl U.vm) qK, qD⟩, fun U hU hW => ⟨rfl, by rw [hU], by rw [hU]; exact hPc, va_K.moved hW.alike hK, hDc.weaken (fun _ _ _ _ => trivial)⟩⟩ rfl rfl hl.1 rfl (lv_room (Nat.le_of_ble_eq_true rfl)) dX12_safe_18 ⟨Nat.le_of_ble_eq_true rfl, Nat.le_of_ble_eq_true rfl⟩) hS (fun q _ h => hFc q h) hFc (fun r_3 u t H1 locs ht hvm hw hB hz1 hk1 hS => ?_)
    obtain ⟨hP1, hD1⟩ := hB
    rw [ht] at hP1
    obtain ⟨hP, hD⟩ := va_join (wr := [(oM, .inr (12, [.ref mT, .int 0, .ref mS, .ref mX, .int 0, .int 0, .ref mL, .ref mB, .ref mD, .ref m1, .ref m2, .int 0, .ref mR, .int 0, .ref x1, .ref x2, .ref x3, .int 0, .ref mH, .int 0, .int 0, .int 0, .int 0, .int (-1), .int (-1), .int 0, .ref mY, .int 0, .ref mE, .int 0, .int 0, .ref mW, .int 0, .ref mO, .int 0, .ref y1, .ref y2, .ref y3, .ref y4, .ref mZ])), (mL, .inl (cI, 512, .inl (fun _ => (-1))))]) (w1 := []) hP hD [] [0, 1] rfl rfl (by decide) (by decide) hk1 hFc hP1 hD1
    generalize H1 = H at hP hS ⊢
    have hP : va_P (dC, dI) vwCl [(oM, .inr (12, [.ref mT, .int 0, .ref mS, .ref mX, .int 0, .int 0, .ref mL, .ref mB, .ref mD, .ref m1, .ref m2, .int 0, .ref mR, .int 0, .ref x1, .ref x2, .ref x3, .int 0, .ref mH, .int 0, .int 0, .int 0, .int 0, .int (-1), .int (-1), .int 0, .ref mY, .int 0, .ref mE, .int 0, .int 0, .ref mW, .int 0, .ref mO, .int 0, .ref y1, .ref y2, .ref y3, .ref y4, .ref mZ])), (mL, .inl (cI, 512, .inl (fun _ => (-1))))] H := hP
    have hD : va_D A [(oM, .inr (12, [.ref mT, .int 0, .ref mS, .ref mX, .int 0, .int 0, .ref mL, .ref mB, .ref mD, .ref m1, .ref m2, .int 0, .ref mR, .int 0, .ref x1, .ref x2, .ref x3, .int 0, .ref mH, .int 0, .int 0, .int 0, .int 0, .int (-1), .int (-1), .int 0, .ref mY, .int 0, .ref mE, .int 0, .int 0, .ref mW, .int 0, .ref mO, .int 0, .ref y1, .ref y2, .ref y3, .ref y4, .ref mZ])), (mL, .inl (cI, 512, .inl (fun _ => (-1))))] := hD
    rw [hw]
    refine lv_if_ne (tgt := 26) hx hb dX12_safe_21 (by decide) (fun c_4 => ?_) (fun c_4 => absurd c_4 (by decide))
    refine lv_iload_n hx hb dX12_safe_26 rfl (lv_at hl 1 rfl) ?_
    refine lv_iload_n hx hb dX12_safe_27 rfl (lv_at hl 2 rfl) ?_
    refine lv_icmp_ne (tgt := 33) hx hb dX12_safe_28 (by decide) (fun c_5 => ?_) (fun c_5 => ?_)
    · refine lv_iconst (v := 0) hx hb dX12_safe_33 (by decide) ?_
      refine lv_istore_n (lv' := [(3, .int 0), (0, .ref oM), (1, .int a), (2, .int 5)]) hx hb dX12_safe_34 rfl hl (by decide) rfl (fun ls hl => ?_)
      have LOOP_35 : ∀ (k_35 i_35 : Nat) (xc_35 : Int32)  (H : Heap) (locs : List Loc) (ls : Array Slot), i_35 + k_35 = 256 → xc_35 = nI i_35 →  (∀ j, j < i_35 → g_ok a 5 (nI j) = true) → va_P (dC, dI) vwCl [(oM, .inr (12, [.ref mT, .int 0, .ref mS, .ref mX, .int 0, .int 0, .ref mL, .ref mB, .ref mD, .ref m1, .ref m2, .int 0, .ref mR, .int 0, .ref x1, .ref x2, .ref x3, .int 0, .ref mH, .int 0, .int 0, .int 0, .int 0, .int (-1), .int (-1), .int 0, .ref mY, .int 0, .ref mE, .int 0, .int 0, .ref mW, .int 0, .ref mO, .int 0, .ref y1, .ref y2, .ref y3, .ref y4, .ref mZ])), (mL, .inl (cI, 512, .inl (fun _ => (-1))))] H → va_D A [(oM, .inr (12, [.ref mT, .int 0, .ref mS, .ref mX, .int 0, .int 0, .ref mL, .ref mB, .ref mD, .ref m1, .ref m2, .int 0, .ref mR, .int 0, .ref x1, .ref x2, .ref x3, .int 0, .ref mH, .int 0, .int 0, .int 0, .int 0, .int (-1), .int (-1), .int 0, .ref mY, .int 0, .ref mE, .int 0, .int 0, .ref mW, .int 0, .ref mO, .int 0, .ref y1, .ref y2, .ref y3, .ref y4, .ref mZ])), (mL, .inl (cI, 512, .inl (fun _ => (-1))))] → va_S A s.heap H locs → lv_has ls 5 [(3, .int xc_35), (0, .ref oM), (1, .int a), (2, .int 5)] → W p l e (headSpec wsX12_safe ({ frames := 1, cells := 0, slots := 0, locals := 22 } : Room)).room s m ([.ref oM, .int a, .int 5] : List Value).toArray below meth c H locs 0 0 (MQ below (va_Qi (fun (r : Int32) (_ : Unit) => r = g_safe a 5) (fun _ _ => True) A) ([.ref oM, .int a, .int 5] : List Value).toArray s 0 0 A) (F0 m 35 ls []) := by
        intro k_35
        induction k_35 with
        | zero =>
          intro i_35 xc_35  H locs ls hi_35 hxc_35  hok hP hD hS hl
          have hi2_35 : i_35 = 256 := by omega
          refine lv_iload_n hx hb dX12_safe_35 rfl (lv_at hl 0 rfl) ?_
          refine lv_sipush (v := 256) hx hb dX12_safe_36 (by decide) ?_
          refine lv_icmp_ge (tgt := 136) hx hb dX12_safe_39 (by decide) (fun c_6 => ?_) (fun c_6 => absurd (by rw [hxc_35]; exact nI_le (a := 256) (b := i_35) (by omega) (by rw [hi2_35]; exact (by decide))) c_6)
          refine lv_iconst (v := 1) hx hb dX12_safe_136 (by decide) ?_
          exact W.iret (v := 1) hx hb hr (fun t ht hW => ⟨⟨1, (), rfl, by rw [g_safe, if_neg c_2, if_neg (show ¬ g_code 5 = 0 by decide), g_all, if_neg c_5, if_pos (p_all (fun j hj => hok j (by omega)))], trivial⟩, hS.F ht⟩) (hS.2.2) dX12_safe_137
        | succ k_35 ih_35 =>
          intro i_35 xc_35  H locs ls hi_35 hxc_35  hok hP hD hS hl
          refine lv_iload_n hx hb dX12_safe_35 rfl (lv_at hl 0 rfl) ?_
          refine lv_sipush (v := 256) hx hb dX12_safe_36 (by decide) ?_
          refine lv_icmp_ge (tgt := 136) hx hb dX12_safe_39 (by decide) (fun c_7 => absurd c_7 (by rw [hxc_35]; exact nI_ge (a := i_35) (b := 256) (by omega) (by decide))) (fun c_7 => ?_)
          refine lv_aload_n hx hb dX12_safe_42 rfl (lv_at hl 1 rfl) ?_
          refine lv_iload_n hx hb dX12_safe_43 rfl (lv_at hl 2 rfl) ?_
          refine lv_iload_n hx hb dX12_safe_44 rfl (lv_at hl 0 rfl) ?_
          have hPc := hP.sub (ws' := [(oM, .inr (12, [.ref mT, .int 0, .ref mS, .ref mX, .int 0, .int 0, .ref mL, .ref mB, .ref mD, .ref m1, .ref m2, .int 0, .ref mR, .int 0, .ref x1, .ref x2, .ref x3, .int 0, .ref mH, .int 0, .int 0, .int 0, .int 0, .int (-1), .int (-1), .int 0, .ref mY, .int 0, .ref mE, .int 0, .int 0, .ref mW, .int 0, .ref mO, .int 0, .ref y1, .ref y2, .ref y3, .ref y4, .ref mZ])), (mL, .inl (cI, 512, .inl (fun _ => (-1))))]) [0, 1] rfl
          have hDc := hD.sub (ws' := [(oM, .inr (12, [.ref mT, .int 0, .ref mS, .ref mX, .int 0, .int 0, .ref mL, .ref mB, .ref mD, .ref m1, .ref m2, .int 0, .ref mR, .int 0, .ref x1, .ref x2, .ref x3, .int 0, .ref mH, .int 0, .int 0, .int 0, .int 0, .int (-1), .int (-1), .int 0, .ref mY, .int 0, .ref mE, .int 0, .int 0, .ref mW, .int 0, .ref mO, .int 0, .ref y1, .ref y2, .ref y3, .ref y4, .ref mZ])), (mL, .inl (cI, 512, .inl (fun _ => (-1))))]) [0, 1] (by decide) rfl
          have hFc := va_free (wc := [(oM, .inr (12, [.ref mT, .int 0, .ref mS, .ref mX, .int 0, .int 0, .ref mL, .ref mB, .ref mD, .ref m1, .ref m2, .int 0, .ref mR, .int 0, .ref x1, .ref x2, .ref x3, .int 0, .ref mH, .int 0, .int 0, .int 0, .int 0, .int (-1), .int (-1), .int 0, .ref mY, .int 0, .ref mE, .int 0, .int 0, .ref mW, .int 0, .ref mO, .int 0, .ref y1, .ref y2, .ref y3, .ref y4, .ref mZ])), (mL, .inl (cI, 512, .inl (fun _ => (-1))))]) hD hS hA [0, 1] rfl
          refine va_calli (va_runV (As := [.int a, .int xc_35]) (rest := []) ⟨hx, hb, hml, hown, hts⟩ (m_X12_canCome l dC dI cI cS H.size oM mT mS mX mL mB mD m1 m2 mR x1 x2 x3 mH mY mE mW mO y1 y2 y3 y4 mZ a xc_35 i_35 (p_code c_2) (hxc_35) (by omega)) (cwV 2 hts gX12_safe_X12_canCome rfl rfl rfl (by decide +kernel) ⟨Nat.le_of_ble_eq_true rfl, Nat.le_of_ble_eq_true rfl⟩) ⟨fun a U g mk q => by obtain ⟨q0, q1, qP, qK, qD⟩ := q; exact ⟨q0, q1, qP, va_K.moved (u := U) (U := U.calling g mk a) (Vm.Alike.refl U.vm) qK, qD⟩, va_recv hK hPc (ci := 12) (q0 := 0) rfl rfl, fun U hU hW => ⟨rfl, by rw [hU], by rw [hU]; exact hPc, va_K.moved hW.alike hK, hDc.weaken (fun _ _ _ _ => trivial)⟩⟩ rfl rfl hl.1 rfl (lv_room (Nat.le_of_ble_eq_true rfl)) dX12_safe_45 ⟨Nat.le_of_ble_eq_true rfl, Nat.le_of_ble_eq_true rfl⟩) hS (fun q _ h => hFc q h) hFc (fun r_8 u t H1 locs ht hvm hw hB hz1 hk1 hS => ?_)
          obtain ⟨hP1, hD1⟩ := hB
          rw [ht] at hP1
          obtain ⟨hP, hD⟩ := va_join (wr := []) (w1 := [(oM, .inr (12, [.ref mT, .int 0, .ref mS, .ref mX, .int 0, .int 0, .ref mL, .ref mB, .ref mD, .ref m1, .ref m2, .int 0, .ref mR, .int 0, .ref x1, .ref x2, .ref x3, .int 0, .ref mH, .int 0, .int 0, .int 0, .int 0, .int (-1), .int (-1), .int 0, .ref mY, .int 0, .ref mE, .int 0, .int 0, .ref mW, .int 0, .ref mO, .int 0, .ref y1, .ref y2, .ref y3, .ref y4, .ref mZ])), (mL, .inl (cI, 512, .inl (fun _ => (-1))))]) hP hD [0, 1] [] rfl rfl (by decide) (by decide) hk1 hFc hP1 hD1
          generalize H1 = H at hP hS ⊢
          have hP : va_P (dC, dI) vwCl [(oM, .inr (12, [.ref mT, .int 0, .ref mS, .ref mX, .int 0, .int 0, .ref mL, .ref mB, .ref mD, .ref m1, .ref m2, .int 0, .ref mR, .int 0, .ref x1, .ref x2, .ref x3, .int 0, .ref mH, .int 0, .int 0, .int 0, .int 0, .int (-1), .int (-1), .int 0, .ref mY, .int 0, .ref mE, .int 0, .int 0, .ref mW, .int 0, .ref mO, .int 0, .ref y1, .ref y2, .ref y3, .ref y4, .ref mZ])), (mL, .inl (cI, 512, .inl (fun _ => (-1))))] H := hP
          have hD : va_D A [(oM, .inr (12, [.ref mT, .int 0, .ref mS, .ref mX, .int 0, .int 0, .ref mL, .ref mB, .ref mD, .ref m1, .ref m2, .int 0, .ref mR, .int 0, .ref x1, .ref x2, .ref x3, .int 0, .ref mH, .int 0, .int 0, .int 0, .int 0, .int (-1), .int (-1), .int 0, .ref mY, .int 0, .ref mE, .int 0, .int 0, .ref mW, .int 0, .ref mO, .int 0, .ref y1, .ref y2, .ref y3, .ref y4, .ref mZ])), (mL, .inl (cI, 512, .inl (fun _ => (-1))))] := hD
          rw [hw]
          refine lv_if_ne (tgt := 54) hx hb dX12_safe_48 (by decide) (fun c_9 => ?_) (fun c_9 => ?_)
          · refine lv_iload_n hx hb dX12_safe_54 rfl (lv_at hl 3 rfl) ?_
            refine lv_iconst (v := 1) hx hb dX12_safe_55 (by decide) ?_
            refine lv_icmp_eq (tgt := 116) hx hb dX12_safe_56 (by decide) (fun c_10 => absurd c_10 (by decide)) (fun c_10 => ?_)
            refine lv_iload_n hx hb dX12_safe_59 rfl (lv_at hl 3 rfl) ?_
            refine lv_if_eq (tgt := 68) hx hb dX12_safe_60 (by decide) (fun c_11 => absurd c_11 (by decide)) (fun c_11 => ?_)
            refine lv_iload_n hx hb dX12_safe_63 rfl (lv_at hl 3 rfl) ?_
            refine lv_iconst (v := 2) hx hb dX12_safe_64 (by decide) ?_
            refine lv_icmp_ne (tgt := 75) hx hb dX12_safe_65 (by decide) (fun c_12 => ?_) (fun c_12 => absurd c_12 (by decide))
            refine lv_iload_n hx hb dX12_safe_75 rfl (lv_at hl 3 rfl) ?_
            refine lv_iconst (v := 3) hx hb dX12_safe_76 (by decide) ?_
            refine lv_icmp_ne (tgt := 93) hx hb dX12_safe_77 (by decide) (fun c_13 => ?_) (fun c_13 => absurd c_13 (by decide))
            refine lv_iload_n hx hb dX12_safe_93 rfl (lv_at hl 3 rfl) ?_
            refine lv_iconst (v := 3) hx hb dX12_safe_94 (by decide) ?_
            refine lv_icmp_le (tgt := 120) hx hb dX12_safe_95 (by decide) (fun c_14 => absurd c_14 (by decide)) (fun c_14 => ?_)
            refine lv_aload_n hx hb dX12_safe_98 rfl (lv_at hl 1 rfl) ?_
            refine va_get (D := (dC, dI)) (ci := 12) (v := .ref mL) (C := RX12) (T := TX12) (N := 40) hx hb hts in_X12 hown hK hP 0 rfl rfl 6 (by decide) (hts (.fieldLink RX12 19 "TextMenderModel" "letterOf" "[I") (List.mem_of_getElem? (i := 3) rfl)) (fun _ h9 => h9) rfl dX12_safe_99 ?_
            refine lv_sipush (v := 256) hx hb dX12_safe_102 (by decide) ?_
            refine lv_iload_n hx hb dX12_safe_105 rfl (lv_at hl 3 rfl) ?_
            refine lv_iconst (v := 4) hx hb dX12_safe_106 (by decide) ?_
            refine lv_isub hx hb dX12_safe_107 ?_
            refine k_i (y := 1) (by decide) ?_
            refine lv_imul hx hb dX12_safe_108 ?_
            refine k_i (y := 256) (by decide) ?_
            refine lv_iload_n hx hb dX12_safe_109 rfl (lv_at hl 0 rfl) ?_
            refine lv_iadd hx hb dX12_safe_110 ?_
            refine lv_topi (fun x_15 ex_15 => ?_)
            refine va_iald hx hb hK hP 1 0 rfl rfl (p_inadd 256 i_35 512 ex_15 rfl hxc_35 (by omega) (by decide)) dX12_safe_111 ?_
            refine k_i (y := (-1)) rfl ?_
            refine lv_iconst (v := (-1)) hx hb dX12_safe_112 (by decide) ?_
            refine lv_icmp_eq (tgt := 120) hx hb dX12_safe_113 (by decide) (fun c_16 => ?_) (fun c_16 => absurd (by decide) c_16)
            refine lv_iconst (v := 0) hx hb dX12_safe_120 (by decide) ?_
            refine lv_istore (lv' := [(4, .int 0), (3, .int xc_35), (0, .ref oM), (1, .int a), (2, .int 5)]) hx hb dX12_safe_121 hl (by decide) rfl (fun ls hl => ?_)
            refine lv_iload hx hb dX12_safe_123 (lv_at hl 0 rfl) ?_
            refine lv_if_ne (tgt := 130) hx hb dX12_safe_125 (by decide) (fun c_17 => absurd (by decide) c_17) (fun c_17 => ?_)
            refine lv_iconst (v := 0) hx hb dX12_safe_128 (by decide) ?_
            exact W.iret (v := 0) hx hb hr (fun t ht hW => ⟨⟨0, (), rfl, by rw [g_safe, if_neg c_2, if_neg (show ¬ g_code 5 = 0 by decide), g_all, if_neg c_5, if_neg (p_notall (i := i_35) (by omega) (by rw [← hxc_35]; exact gok_no c_9 (by simp [gis_5, c_2, c_5])))], trivial⟩, hS.F ht⟩) (hS.2.2) dX12_safe_129
          · refine lv_goto (tgt := 130) hx hb dX12_safe_51 (by decide) ?_
            obtain ⟨x_18, ex_18⟩ : ∃ y : Int32, y = xc_35 + 1 := ⟨_, rfl⟩
            refine lv_iinc (v := x_18) (lv' := [(3, .int x_18), (0, .ref oM), (1, .int a), (2, .int 5)]) hx hb dX12_safe_130 hl (k := 0) rfl (by rw [ex_18]; rfl) (by decide) rfl (fun ls hl => ?_)
            refine lv_goto (tgt := 35) hx hb dX12_safe_133 (by decide) ?_
            exact ih_35 (i_35 + 1) x_18  _ _ _ (by omega) (by rw [ex_18, hxc_35]; exact nI_1 i_35)  (lt_s hok (by rw [← hxc_35]; exact gok_skip c_9)) hP hD hS (lv_sub hl [0, 1, 2, 3] rfl)
      exact LOOP_35 256 0 0  _ _ _ (by omega) nI_0.symm  (fun j hj => absurd hj (Nat.not_lt_zero j)) hP hD hS (lv_sub hl [0, 1, 2, 3] rfl)
    · refine lv_iconst (v := 1) hx hb dX12_safe_31 (by decide) ?_
      exact W.iret (v := 1) hx hb hr (fun t ht hW => ⟨⟨1, (), rfl, by rw [g_safe, if_neg c_2, if_neg (show ¬ g_code 5 = 0 by decide), g_all, if_pos c_5], trivial⟩, hS.F ht⟩) (hS.2.2) dX12_safe_32

set_option maxHeartbeats 4000000 in
set_option maxRecDepth 100000 in
theorem y_safe_n (l : Launch) (dC : Nat → ClassId) (dI : Nat → Nat → Nat) (cI cS : ClassId) (sz : Nat) (oM : Nat) (mT : Nat) (mS : Nat) (mX : Nat) (mL : Nat) (mB : Nat) (mD : Nat) (m1 : Nat) (m2 : Nat) (mR : Nat) (x1 : Nat) (x2 : Nat) (x3 : Nat) (mH : Nat) (mY : Nat) (mE : Nat) (mW : Nat) (mO : Nat) (y1 : Nat) (y2 : Nat) (y3 : Nat) (y4 : Nat) (mZ : Nat) (a : Int32) (b : Int32) (hgb : g_code b = 0) : Met l yX12_safe wsX12_safe ({ frames := 1, cells := 0, slots := 0, locals := 22 } : Room) (va_Pc [.ref oM, .int a, .int b] (fun U => U.heap.size = sz ∧ va_P (dC, dI) vwCl [(oM, .inr (12, [.ref mT, .int 0, .ref mS, .ref mX, .int 0, .int 0, .ref mL, .ref mB, .ref mD, .ref m1, .ref m2, .int 0, .ref mR, .int 0, .ref x1, .ref x2, .ref x3, .int 0, .ref mH, .int 0, .int 0, .int 0, .int 0, .int (-1), .int (-1), .int 0, .ref mY, .int 0, .ref mE, .int 0, .int 0, .ref mW, .int 0, .ref mO, .int 0, .ref y1, .ref y2, .ref y3, .ref y4, .ref mZ])), (mL, .inl (cI, 512, .inl (fun _ => (-1))))] U.heap ∧ va_K (dC, dI) vwCl [(cI, .int), (cS, .short)] U ∧ va_D (fun _ => True) [(oM, .inr (12, [.ref mT, .int 0, .ref mS, .ref mX, .int 0, .int 0, .ref mL, .ref mB, .ref mD, .ref m1, .ref m2, .int 0, .ref mR, .int 0, .ref x1, .ref x2, .ref x3, .int 0, .ref mH, .int 0, .int 0, .int 0, .int 0, .int (-1), .int (-1), .int 0, .ref mY, .int 0, .ref mE, .int 0, .int 0, .ref mW, .int 0, .ref mO, .int 0, .ref y1, .ref y2, .ref y3, .ref y4, .ref mZ])), (mL, .inl (cI, 512, .inl (fun _ => (-1))))])) (va_Qi (fun (r : Int32) (_ : Unit) => r = g_safe a b) (fun _ _ => True) (va_A [(oM, .inr (12, [.ref mT, .int 0, .ref mS, .ref mX, .int 0, .int 0, .ref mL, .ref mB, .ref mD, .ref m1, .ref m2, .int 0, .ref mR, .int 0, .ref x1, .ref x2, .ref x3, .int 0, .ref mH, .int 0, .int 0, .int 0, .int 0, .int (-1), .int (-1), .int 0, .ref mY, .int 0, .ref mE, .int 0, .int 0, .ref mW, .int 0, .ref mO, .int 0, .ref y1, .ref y2, .ref y3, .ref y4, .ref mZ])), (mL, .inl (cI, 512, .inl (fun _ => (-1))))] sz)) 0 0 (va_A [(oM, .inr (12, [.ref mT, .int 0, .ref mS, .ref mX, .int 0, .int 0, .ref mL, .ref mB, .ref mD, .ref m1, .ref m2, .int 0, .ref mR, .int 0, .ref x1, .ref x2, .ref x3, .int 0, .ref mH, .int 0, .int 0, .int 0, .int 0, .int (-1), .int (-1), .int 0, .ref mY, .int 0, .ref mE, .int 0, .int 0, .ref mW, .int 0, .ref mO, .int 0, .ref y1, .ref y2, .ref y3, .ref y4, .ref mZ])), (mL, .inl (cI, 512, .inl (fun _ => (-1))))] sz) := by
  refine Met.ofW (cc := cX12_safe) (maxL := 5) (ret := (some .int)) (by decide) rfl ?_
  intro p e s m args below meth c s₁ B hml hv
  obtain ⟨rfl, hsz, hP, hK, hD0⟩ := hv
  have hx := B.exec
  have hb := B.bytes
  have hr := B.returns
  have hts := atoms_spec (ws := wsX12_safe) B.pre
  have hown : s.vm.findClass RX12 = some m.cls := findClass_of_methodNamed B.named
  have hlocks := B.notSynchronized
  have in_X12 : ∀ w ∈ wsX120, w ∈ wsX12_safe := fun _ h => List.mem_cons_of_mem _ (List.mem_append_right _ (h))
  subst hsz
  have hD := hD0.self (sz := s.heap.size)
  generalize hAe : va_A [(oM, .inr (12, [.ref mT, .int 0, .ref mS, .ref mX, .int 0, .int 0, .ref mL, .ref mB, .ref mD, .ref m1, .ref m2, .int 0, .ref mR, .int 0, .ref x1, .ref x2, .ref x3, .int 0, .ref mH, .int 0, .int 0, .int 0, .int 0, .int (-1), .int (-1), .int 0, .ref mY, .int 0, .ref mE, .int 0, .int 0, .ref mW, .int 0, .ref mO, .int 0, .ref y1, .ref y2, .ref y3, .ref y4, .ref mZ])), (mL, .inl (cI, 512, .inl (fun _ => (-1))))] s.heap.size = A at hD ⊢
  have hA : ∀ q : Nat, s.heap.size ≤ q → A q := fun q h => by rw [← hAe]; exact Or.inr h
  have hS : va_S A s.heap s.heap [] := va_S.rf
  have hP : va_P (dC, dI) vwCl [(oM, .inr (12, [.ref mT, .int 0, .ref mS, .ref mX, .int 0, .int 0, .ref mL, .ref mB, .ref mD, .ref m1, .ref m2, .int 0, .ref mR, .int 0, .ref x1, .ref x2, .ref x3, .int 0, .ref mH, .int 0, .int 0, .int 0, .int 0, .int (-1), .int (-1), .int 0, .ref mY, .int 0, .ref mE, .int 0, .int 0, .ref mW, .int 0, .ref mO, .int 0, .ref y1, .ref y2, .ref y3, .ref y4, .ref mZ])), (mL, .inl (cI, 512, .inl (fun _ => (-1))))] s.heap := hP
  have hl := lv_entry ([.ref oM, .int a, .int b]) (n := 5) (Nat.le_of_ble_eq_true rfl)
  rw [lg_entry_eq]
  generalize (lg_sl ([.ref oM, .int a, .int b]) ++ List.replicate (5 - (lg_sl ([.ref oM, .int a, .int b])).length) Slot.unset).toArray = ls at hl ⊢
  have hl : lv_has ls 5 [(0, .ref oM), (1, .int a), (2, .int b)] := hl
  refine lv_aload_n hx hb dX12_safe_0 rfl (lv_at hl 0 rfl) ?_
  refine lv_iconst (v := 0) hx hb dX12_safe_1 (by decide) ?_
  refine va_put (D := (dC, dI)) (ci := 12) (v := .int 0) (ty := .int) (C := RX12) (T := TX12) (N := 40) hx hb hts in_X12 tyX12 tyX12_ok nmX12 hown hK hP hD hS 0 rfl rfl 25 (by decide) (hts (.fieldLink RX12 85 "TextMenderModel" "thrown" "I") (List.mem_of_getElem? (i := 1) rfl)) (fun _ h9 => h9) rfl (by decide +kernel) rfl rfl (Nat.le_of_ble_eq_true rfl) dX12_safe_2 (fun H locs hP hD hS => ?_)
  have hP : va_P (dC, dI) vwCl [(oM, .inr (12, [.ref mT, .int 0, .ref mS, .ref mX, .int 0, .int 0, .ref mL, .ref mB, .ref mD, .ref m1, .ref m2, .int 0, .ref mR, .int 0, .ref x1, .ref x2, .ref x3, .int 0, .ref mH, .int 0, .int 0, .int 0, .int 0, .int (-1), .int (-1), .int 0, .ref mY, .int 0, .ref mE, .int 0, .int 0, .ref mW, .int 0, .ref mO, .int 0, .ref y1, .ref y2, .ref y3, .ref y4, .ref mZ])), (mL, .inl (cI, 512, .inl (fun _ => (-1))))] H := hP
  have hD : va_D A [(oM, .inr (12, [.ref mT, .int 0, .ref mS, .ref mX, .int 0, .int 0, .ref mL, .ref mB, .ref mD, .ref m1, .ref m2, .int 0, .ref mR, .int 0, .ref x1, .ref x2, .ref x3, .int 0, .ref mH, .int 0, .int 0, .int 0, .int 0, .int (-1), .int (-1), .int 0, .ref mY, .int 0, .ref mE, .int 0, .int 0, .ref mW, .int 0, .ref mO, .int 0, .ref y1, .ref y2, .ref y3, .ref y4, .ref mZ])), (mL, .inl (cI, 512, .inl (fun _ => (-1))))] := hD
  refine lv_aload_n hx hb dX12_safe_5 rfl (lv_at hl 0 rfl) ?_
  refine lv_iconst (v := (-1)) hx hb dX12_safe_6 (by decide) ?_
  refine va_put (D := (dC, dI)) (ci := 12) (v := .int (-1)) (ty := .int) (C := RX12) (T := TX12) (N := 40) hx hb hts in_X12 tyX12 tyX12_ok nmX12 hown hK hP hD hS 0 rfl rfl 24 (by decide) (hts (.fieldLink RX12 55 "TextMenderModel" "where" "I") (List.mem_of_getElem? (i := 2) rfl)) (fun _ h9 => h9) rfl (by decide +kernel) rfl rfl (Nat.le_of_ble_eq_true rfl) dX12_safe_7 (fun H locs hP hD hS => ?_)
  have hP : va_P (dC, dI) vwCl [(oM, .inr (12, [.ref mT, .int 0, .ref mS, .ref mX, .int 0, .int 0, .ref mL, .ref mB, .ref mD, .ref m1, .ref m2, .int 0, .ref mR, .int 0, .ref x1, .ref x2, .ref x3, .int 0, .ref mH, .int 0, .int 0, .int 0, .int 0, .int (-1), .int (-1), .int 0, .ref mY, .int 0, .ref mE, .int 0, .int 0, .ref mW, .int 0, .ref mO, .int 0, .ref y1, .ref y2, .ref y3, .ref y4, .ref mZ])), (mL, .inl (cI, 512, .inl (fun _ => (-1))))] H := hP
  have hD : va_D A [(oM, .inr (12, [.ref mT, .int 0, .ref mS, .ref mX, .int 0, .int 0, .ref mL, .ref mB, .ref mD, .ref m1, .ref m2, .int 0, .ref mR, .int 0, .ref x1, .ref x2, .ref x3, .int 0, .ref mH, .int 0, .int 0, .int 0, .int 0, .int (-1), .int (-1), .int 0, .ref mY, .int 0, .ref mE, .int 0, .int 0, .ref mW, .int 0, .ref mO, .int 0, .ref y1, .ref y2, .ref y3, .ref y4, .ref mZ])), (mL, .inl (cI, 512, .inl (fun _ => (-1))))] := hD
  refine lv_iload_n hx hb dX12_safe_10 rfl (lv_at hl 1 rfl) ?_
  have hPc := hP.sub (ws' := []) [] rfl
  have hDc := hD.sub (ws' := []) [] (by decide) rfl
  have hFc := va_free (wc := []) hD hS hA [] rfl
  refine va_calli (va_runS (As := [.int a]) (rest := []) ⟨hx, hb, hml, hown, hts⟩ (m_X12_isCode l dC dI cI cS H.size a ) (va_cwS 1 hts gX12_safe_X12_isCode rfl rfl rfl (by decide +kernel) ⟨Nat.le_of_ble_eq_true rfl, Nat.le_of_ble_eq_true rfl⟩) ⟨fun a U g mk q => by obtain ⟨q0, q1, qP, qK, qD⟩ := q; exact ⟨q0, q1, qP, va_K.moved (u := U) (U := U.calling g mk a) (Vm.Alike.refl U.vm) qK, qD⟩, fun U hU hW => ⟨rfl, by rw [hU], by rw [hU]; exact hPc, va_K.moved hW.alike hK, hDc.weaken (fun _ _ _ _ => trivial)⟩⟩ rfl rfl hl.1 rfl (lv_room (Nat.le_of_ble_eq_true rfl)) dX12_safe_11 ⟨Nat.le_of_ble_eq_true rfl, Nat.le_of_ble_eq_true rfl⟩) hS (fun q _ h => hFc q h) hFc (fun r_1 u t H1 locs ht hvm hw hB hz1 hk1 hS => ?_)
  obtain ⟨hP1, hD1⟩ := hB
  rw [ht] at hP1
  obtain ⟨hP, hD⟩ := va_join (wr := [(oM, .inr (12, [.ref mT, .int 0, .ref mS, .ref mX, .int 0, .int 0, .ref mL, .ref mB, .ref mD, .ref m1, .ref m2, .int 0, .ref mR, .int 0, .ref x1, .ref x2, .ref x3, .int 0, .ref mH, .int 0, .int 0, .int 0, .int 0, .int (-1), .int (-1), .int 0, .ref mY, .int 0, .ref mE, .int 0, .int 0, .ref mW, .int 0, .ref mO, .int 0, .ref y1, .ref y2, .ref y3, .ref y4, .ref mZ])), (mL, .inl (cI, 512, .inl (fun _ => (-1))))]) (w1 := []) hP hD [] [0, 1] rfl rfl (by decide) (by decide) hk1 hFc hP1 hD1
  generalize H1 = H at hP hS ⊢
  have hP : va_P (dC, dI) vwCl [(oM, .inr (12, [.ref mT, .int 0, .ref mS, .ref mX, .int 0, .int 0, .ref mL, .ref mB, .ref mD, .ref m1, .ref m2, .int 0, .ref mR, .int 0, .ref x1, .ref x2, .ref x3, .int 0, .ref mH, .int 0, .int 0, .int 0, .int 0, .int (-1), .int (-1), .int 0, .ref mY, .int 0, .ref mE, .int 0, .int 0, .ref mW, .int 0, .ref mO, .int 0, .ref y1, .ref y2, .ref y3, .ref y4, .ref mZ])), (mL, .inl (cI, 512, .inl (fun _ => (-1))))] H := hP
  have hD : va_D A [(oM, .inr (12, [.ref mT, .int 0, .ref mS, .ref mX, .int 0, .int 0, .ref mL, .ref mB, .ref mD, .ref m1, .ref m2, .int 0, .ref mR, .int 0, .ref x1, .ref x2, .ref x3, .int 0, .ref mH, .int 0, .int 0, .int 0, .int 0, .int (-1), .int (-1), .int 0, .ref mY, .int 0, .ref mE, .int 0, .int 0, .ref mW, .int 0, .ref mO, .int 0, .ref y1, .ref y2, .ref y3, .ref y4, .ref mZ])), (mL, .inl (cI, 512, .inl (fun _ => (-1))))] := hD
  rw [hw]
  refine lv_if_eq (tgt := 24) hx hb dX12_safe_14 (by decide) (fun c_2 => ?_) (fun c_2 => ?_)
  · refine lv_iconst (v := (-1)) hx hb dX12_safe_24 (by decide) ?_
    exact W.iret (v := (-1)) hx hb hr (fun t ht hW => ⟨⟨(-1), (), rfl, by rw [g_safe, if_pos hgb]; simp, trivial⟩, hS.F ht⟩) (hS.2.2) dX12_safe_25
  · refine lv_iload_n hx hb dX12_safe_17 rfl (lv_at hl 2 rfl) ?_
    have hPc := hP.sub (ws' := []) [] rfl
    have hDc := hD.sub (ws' := []) [] (by decide) rfl
    have hFc := va_free (wc := []) hD hS hA [] rfl
    refine va_calli (va_runS (As := [.int b]) (rest := []) ⟨hx, hb, hml, hown, hts⟩ (m_X12_isCode l dC dI cI cS H.size b ) (va_cwS 1 hts gX12_safe_X12_isCode rfl rfl rfl (by decide +kernel) ⟨Nat.le_of_ble_eq_true rfl, Nat.le_of_ble_eq_true rfl⟩) ⟨fun a U g mk q => by obtain ⟨q0, q1, qP, qK, qD⟩ := q; exact ⟨q0, q1, qP, va_K.moved (u := U) (U := U.calling g mk a) (Vm.Alike.refl U.vm) qK, qD⟩, fun U hU hW => ⟨rfl, by rw [hU], by rw [hU]; exact hPc, va_K.moved hW.alike hK, hDc.weaken (fun _ _ _ _ => trivial)⟩⟩ rfl rfl hl.1 rfl (lv_room (Nat.le_of_ble_eq_true rfl)) dX12_safe_18 ⟨Nat.le_of_ble_eq_true rfl, Nat.le_of_ble_eq_true rfl⟩) hS (fun q _ h => hFc q h) hFc (fun r_3 u t H1 locs ht hvm hw hB hz1 hk1 hS => ?_)
    obtain ⟨hP1, hD1⟩ := hB
    rw [ht] at hP1
    obtain ⟨hP, hD⟩ := va_join (wr := [(oM, .inr (12, [.ref mT, .int 0, .ref mS, .ref mX, .int 0, .int 0, .ref mL, .ref mB, .ref mD, .ref m1, .ref m2, .int 0, .ref mR, .int 0, .ref x1, .ref x2, .ref x3, .int 0, .ref mH, .int 0, .int 0, .int 0, .int 0, .int (-1), .int (-1), .int 0, .ref mY, .int 0, .ref mE, .int 0, .int 0, .ref mW, .int 0, .ref mO, .int 0, .ref y1, .ref y2, .ref y3, .ref y4, .ref mZ])), (mL, .inl (cI, 512, .inl (fun _ => (-1))))]) (w1 := []) hP hD [] [0, 1] rfl rfl (by decide) (by decide) hk1 hFc hP1 hD1
    generalize H1 = H at hP hS ⊢
    have hP : va_P (dC, dI) vwCl [(oM, .inr (12, [.ref mT, .int 0, .ref mS, .ref mX, .int 0, .int 0, .ref mL, .ref mB, .ref mD, .ref m1, .ref m2, .int 0, .ref mR, .int 0, .ref x1, .ref x2, .ref x3, .int 0, .ref mH, .int 0, .int 0, .int 0, .int 0, .int (-1), .int (-1), .int 0, .ref mY, .int 0, .ref mE, .int 0, .int 0, .ref mW, .int 0, .ref mO, .int 0, .ref y1, .ref y2, .ref y3, .ref y4, .ref mZ])), (mL, .inl (cI, 512, .inl (fun _ => (-1))))] H := hP
    have hD : va_D A [(oM, .inr (12, [.ref mT, .int 0, .ref mS, .ref mX, .int 0, .int 0, .ref mL, .ref mB, .ref mD, .ref m1, .ref m2, .int 0, .ref mR, .int 0, .ref x1, .ref x2, .ref x3, .int 0, .ref mH, .int 0, .int 0, .int 0, .int 0, .int (-1), .int (-1), .int 0, .ref mY, .int 0, .ref mE, .int 0, .int 0, .ref mW, .int 0, .ref mO, .int 0, .ref y1, .ref y2, .ref y3, .ref y4, .ref mZ])), (mL, .inl (cI, 512, .inl (fun _ => (-1))))] := hD
    rw [hw]
    refine lv_if_ne (tgt := 26) hx hb dX12_safe_21 (by decide) (fun c_4 => absurd (hgb) c_4) (fun c_4 => ?_)
    refine lv_iconst (v := (-1)) hx hb dX12_safe_24 (by decide) ?_
    exact W.iret (v := (-1)) hx hb hr (fun t ht hW => ⟨⟨(-1), (), rfl, by rw [g_safe, if_pos hgb]; simp, trivial⟩, hS.F ht⟩) (hS.2.2) dX12_safe_25

theorem y_safe (l : Launch) (dC : Nat → ClassId) (dI : Nat → Nat → Nat) (cI cS : ClassId) (sz : Nat) (oM : Nat) (mT : Nat) (mS : Nat) (mX : Nat) (mL : Nat) (mB : Nat) (mD : Nat) (m1 : Nat) (m2 : Nat) (mR : Nat) (x1 : Nat) (x2 : Nat) (x3 : Nat) (mH : Nat) (mY : Nat) (mE : Nat) (mW : Nat) (mO : Nat) (y1 : Nat) (y2 : Nat) (y3 : Nat) (y4 : Nat) (mZ : Nat) (a : Int32) (b : Int32)  : Met l yX12_safe wsX12_safe ({ frames := 1, cells := 0, slots := 0, locals := 22 } : Room) (va_Pc [.ref oM, .int a, .int b] (fun U => U.heap.size = sz ∧ va_P (dC, dI) vwCl [(oM, .inr (12, [.ref mT, .int 0, .ref mS, .ref mX, .int 0, .int 0, .ref mL, .ref mB, .ref mD, .ref m1, .ref m2, .int 0, .ref mR, .int 0, .ref x1, .ref x2, .ref x3, .int 0, .ref mH, .int 0, .int 0, .int 0, .int 0, .int (-1), .int (-1), .int 0, .ref mY, .int 0, .ref mE, .int 0, .int 0, .ref mW, .int 0, .ref mO, .int 0, .ref y1, .ref y2, .ref y3, .ref y4, .ref mZ])), (mL, .inl (cI, 512, .inl (fun _ => (-1))))] U.heap ∧ va_K (dC, dI) vwCl [(cI, .int), (cS, .short)] U ∧ va_D (fun _ => True) [(oM, .inr (12, [.ref mT, .int 0, .ref mS, .ref mX, .int 0, .int 0, .ref mL, .ref mB, .ref mD, .ref m1, .ref m2, .int 0, .ref mR, .int 0, .ref x1, .ref x2, .ref x3, .int 0, .ref mH, .int 0, .int 0, .int 0, .int 0, .int (-1), .int (-1), .int 0, .ref mY, .int 0, .ref mE, .int 0, .int 0, .ref mW, .int 0, .ref mO, .int 0, .ref y1, .ref y2, .ref y3, .ref y4, .ref mZ])), (mL, .inl (cI, 512, .inl (fun _ => (-1))))])) (va_Qi (fun (r : Int32) (_ : Unit) => r = g_safe a b) (fun _ _ => True) (va_A [(oM, .inr (12, [.ref mT, .int 0, .ref mS, .ref mX, .int 0, .int 0, .ref mL, .ref mB, .ref mD, .ref m1, .ref m2, .int 0, .ref mR, .int 0, .ref x1, .ref x2, .ref x3, .int 0, .ref mH, .int 0, .int 0, .int 0, .int 0, .int (-1), .int (-1), .int 0, .ref mY, .int 0, .ref mE, .int 0, .int 0, .ref mW, .int 0, .ref mO, .int 0, .ref y1, .ref y2, .ref y3, .ref y4, .ref mZ])), (mL, .inl (cI, 512, .inl (fun _ => (-1))))] sz)) 0 0 (va_A [(oM, .inr (12, [.ref mT, .int 0, .ref mS, .ref mX, .int 0, .int 0, .ref mL, .ref mB, .ref mD, .ref m1, .ref m2, .int 0, .ref mR, .int 0, .ref x1, .ref x2, .ref x3, .int 0, .ref mH, .int 0, .int 0, .int 0, .int 0, .int (-1), .int (-1), .int 0, .ref mY, .int 0, .ref mE, .int 0, .int 0, .ref mW, .int 0, .ref mO, .int 0, .ref y1, .ref y2, .ref y3, .ref y4, .ref mZ])), (mL, .inl (cI, 512, .inl (fun _ => (-1))))] sz) := by
  by_cases hgb : g_code b = 0
  · exact y_safe_n l dC dI cI cS sz oM mT mS mX mL mB mD m1 m2 mR x1 x2 x3 mH mY mE mW mO y1 y2 y3 y4 mZ a b hgb
  · rcases p_code hgb with rfl | rfl | rfl | rfl | rfl | rfl
    · exact y_safe_0 l dC dI cI cS sz oM mT mS mX mL mB mD m1 m2 mR x1 x2 x3 mH mY mE mW mO y1 y2 y3 y4 mZ a
    · exact y_safe_1 l dC dI cI cS sz oM mT mS mX mL mB mD m1 m2 mR x1 x2 x3 mH mY mE mW mO y1 y2 y3 y4 mZ a
    · exact y_safe_2 l dC dI cI cS sz oM mT mS mX mL mB mD m1 m2 mR x1 x2 x3 mH mY mE mW mO y1 y2 y3 y4 mZ a
    · exact y_safe_3 l dC dI cI cS sz oM mT mS mX mL mB mD m1 m2 mR x1 x2 x3 mH mY mE mW mO y1 y2 y3 y4 mZ a
    · exact y_safe_4 l dC dI cI cS sz oM mT mS mX mL mB mD m1 m2 mR x1 x2 x3 mH mY mE mW mO y1 y2 y3 y4 mZ a
    · exact y_safe_5 l dC dI cI cS sz oM mT mS mX mL mB mD m1 m2 mR x1 x2 x3 mH mY mE mW mO y1 y2 y3 y4 mZ a
