/-! 58.cost -/
section
set_option maxHeartbeats 40000000 in
set_option maxRecDepth 100000 in
theorem f_X3_pairOf (l : Launch) (dC : Nat → ClassId) (dI : Nat → Nat → Nat) (cI cS : ClassId) (sz : Nat) (x : Int32) (y : Int32)  : kMi l yX3_pairOf wsX3_pairOf ({ frames := 0, cells := 0, slots := 0, locals := 0 } : Room) [.int x, .int y] sz (dC, dI) vwCl [(cI, .int), (cS, .short)] [] (fun _ => True) 0 0 (fun (A : Nat → Prop) (r : Int32) (hh9 : Heap) => ∀ PZ9 : Prop, (kPD (dC, dI) vwCl A [] hh9 → (r = pk2 x y) → PZ9) → PZ9) := by
  refine kMi_of (cc := cX3_pairOf) (maxL := 2) (ret := (some .int)) (lv := [(0, .int x), (1, .int y)]) (by decide +kernel) rfl rfl (Nat.le_of_ble_eq_true rfl) ?_
  intro p e s m below meth c A QQ ls hx hb hr hts hml hown hlocks hA hQQ hK hX hP hD hS hl
  have hown : s.vm.findClass RX3 = some m.cls := hown
  have hcf := k_cf hx hb hml hown hts
  refine lv_iload_n hx hb dX3_pairOf_0 rfl (lv_at hl 0 rfl) ?_
  refine lv_bipush (v := 16) hx hb dX3_pairOf_1 (by decide) ?_
  refine lv_ishl hx hb dX3_pairOf_3 ?_
  refine lv_topi (fun x_1 ex_1 => ?_)
  refine lv_iload_n hx hb dX3_pairOf_4 rfl (lv_at hl 1 rfl) ?_
  refine lv_ior hx hb dX3_pairOf_5 ?_
  refine lv_topi (fun x_2 ex_2 => ?_)
  exact kl_i (v := x_2) hQQ hx hb hr hlocks hS dX3_pairOf_6 (fun PZ9 kZ9 => kZ9 (⟨hP, hD⟩) (by rw [ex_2, ex_1]; rfl))

set_option maxHeartbeats 40000000 in
set_option maxRecDepth 100000 in
theorem f_X3_placeFor (l : Launch) (dC : Nat → ClassId) (dI : Nat → Nat → Nat) (cI cS : ClassId) (sz : Nat) (oK : Nat) (k1 : Nat) (k2 : Nat) (lK : Int32) (fK1 : Nat → Int32) (fK2 : Nat → Int32) (x : Int32) (y : Int32) (g_lK : 0 ≤ lK.toInt ∧ lK.toInt ≤ 300) : kMi l yX3_placeFor wsX3_placeFor ({ frames := 1, cells := 0, slots := 0, locals := 21 } : Room) [.ref oK, .int x, .int y] sz (dC, dI) vwCl [(cI, .int), (cS, .short)] [(oK, .inr (3, [.ref k1, .ref k2, .int lK])), (k1, .inl (cI, 1024, .inl fK1)), (k2, .inl (cI, 1024, .inl fK2))] (fun _ => True) 0 0 (fun (A : Nat → Prop) (r : Int32) (hh9 : Heap) => ∀ PZ9 : Prop, (kPD (dC, dI) vwCl A [(oK, .inr (3, [.ref k1, .ref k2, .int lK])), (k1, .inl (cI, 1024, .inl fK1)), (k2, .inl (cI, 1024, .inl fK2))] hh9 → (-1 ≤ r.toInt ∧ r.toInt ≤ 1023) → (F_pf 1024 1023 (hsK (pk2 x y)) (pk2 x y) r fK1 fK2) → PZ9) → PZ9) := by
  refine kMi_of (cc := cX3_placeFor) (maxL := 7) (ret := (some .int)) (lv := [(0, .ref oK), (1, .int x), (2, .int y)]) (by decide +kernel) rfl rfl (Nat.le_of_ble_eq_true rfl) ?_
  intro p e s m below meth c A QQ ls hx hb hr hts hml hown hlocks hA hQQ hK hX hP hD hS hl
  have hown : s.vm.findClass RX3 = some m.cls := hown
  have hcf := k_cf hx hb hml hown hts
  have in_X3 : ∀ w ∈ wsX30, w ∈ wsX3_placeFor := fun _ h => List.mem_cons_of_mem _ (List.mem_append_left _ (List.mem_append_right _ (h)))
  replace g_lK := hid g_lK
  refine lv_iload_n hx hb dX3_placeFor_0 rfl (lv_at hl 1 rfl) ?_
  refine lv_iload_n hx hb dX3_placeFor_1 rfl (lv_at hl 2 rfl) ?_
  refine kS_i (rest := []) hcf (f_X3_pairOf l dC dI cI cS s.heap.size x y ) kc_X3_pairOf gX3_placeFor_X3_pairOf rfl rfl ⟨Nat.le_of_ble_eq_true rfl, Nat.le_of_ble_eq_true rfl⟩ kX_t hK hP hD hS hA [] [0, 1, 2] rfl (by decide +kernel) rfl hl rfl (Nat.le_of_ble_eq_true rfl) dX3_placeFor_2 ⟨Nat.le_of_ble_eq_true rfl, Nat.le_of_ble_eq_true rfl⟩ (fun r_1 H locs hB hJ hSn => ?_)
  refine hB _ (fun hPD9 hf1_0 => ?_)
  clear hB
  obtain ⟨hPn, hDn⟩ := hJ _ hPD9.1 hPD9.2 [(oK, .inr (3, [.ref k1, .ref k2, .int lK])), (k1, .inl (cI, 1024, .inl fK1)), (k2, .inl (cI, 1024, .inl fK2))] rfl
  clear hP hD hS hJ hPD9
  have hP := hPn
  have hD := hDn
  have hS := hSn
  clear hPn hDn hSn
  rw [hf1_0]
  refine lv_istore_n (lv' := [(3, .int (pk2 x y)), (0, .ref oK), (1, .int x), (2, .int y)]) hx hb dX3_placeFor_5 rfl hl (by decide) rfl (fun ls hl => ?_)
  refine lv_iload_n hx hb dX3_placeFor_6 rfl (lv_at hl 0 rfl) ?_
  refine lv_ldc hx hb hown (hts (.constant RX3 53 (-1640531535)) (List.mem_of_getElem? (i := 1) rfl)) dX3_placeFor_7 ?_
  refine lv_imul hx hb dX3_placeFor_9 ?_
  refine lv_topi (fun x_2 ex_2 => ?_)
  have rv2_0 := v_rng (pk2 x y)
  refine lv_bipush (v := 22) hx hb dX3_placeFor_10 (by decide) ?_
  obtain ⟨x_3, ex_3⟩ : ∃ v : Int32, v = ((x_2 : Int32).toUInt32 >>> ((22 : Int32).toUInt32 &&& Int32.toUInt32 31)).toInt32 := ⟨_, rfl⟩
  refine lv_iushr (v := x_3) hx hb dX3_placeFor_12 ex_3.symm ?_
  have tx_3 : 0 ≤ x_3.toInt ∧ x_3.toInt < 1024 := v_ushr 22 ex_3 (by decide) (by decide) (by decide)
  refine lv_istore (lv' := [(4, .int x_3), (3, .int (pk2 x y)), (0, .ref oK), (1, .int x), (2, .int y)]) hx hb dX3_placeFor_13 hl (by decide) rfl (fun ls hl => ?_)
  refine lv_iconst (v := 0) hx hb dX3_placeFor_15 (by decide) ?_
  refine lv_istore (lv' := [(5, .int 0), (4, .int x_3), (3, .int (pk2 x y)), (0, .ref oK), (1, .int x), (2, .int y)]) hx hb dX3_placeFor_16 hl (by decide) rfl (fun ls hl => ?_)
  have LOOP_18 : ∀ (k_18 : Nat) (k : Int32) (H : Heap) (locs : List Loc) (ls : Array Slot), MSd (1024 - k.toInt : Int) k_18 → (0 ≤ k.toInt ∧ k.toInt ≤ 1024) → (∀ q : Int32, 0 ≤ q.toInt → q.toInt < k.toInt → ¬ fK2 (slI 1023 x_3 q) = -1 ∧ ¬ fK1 (slI 1023 x_3 q) = pk2 x y) → va_P (dC, dI) vwCl [(oK, .inr (3, [.ref k1, .ref k2, .int lK])), (k1, .inl (cI, 1024, .inl fK1)), (k2, .inl (cI, 1024, .inl fK2))] H → va_D A [(oK, .inr (3, [.ref k1, .ref k2, .int lK])), (k1, .inl (cI, 1024, .inl fK1)), (k2, .inl (cI, 1024, .inl fK2))] → va_S A s.heap H locs → lv_has ls 7 [(5, .int k), (4, .int x_3), (3, .int (pk2 x y)), (0, .ref oK), (1, .int x), (2, .int y)] → W p l e (headSpec wsX3_placeFor ({ frames := 1, cells := 0, slots := 0, locals := 21 } : Room)).room s m ([.ref oK, .int x, .int y] : List Value).toArray below meth c H locs 0 0 (MQ below QQ ([.ref oK, .int x, .int y] : List Value).toArray s 0 0 A) (F0 m 18 ls []) := by
    clear hP hD hS hl
    intro k_18
    induction k_18 with
    | zero =>
      intro k H locs ls hm_18 g_k hq hP hD hS hl
      exact ms_0 hm_18
    | succ k_18 ih_18 =>
      intro k H locs ls hm_18 g_k hq hP hD hS hl
      refine lv_iload hx hb dX3_placeFor_18 (lv_at hl 0 rfl) ?_
      refine lv_sipush (v := 1024) hx hb dX3_placeFor_20 (by decide) ?_
      refine lv_icmp_ge (tgt := 68) hx hb dX3_placeFor_23 (by decide) (fun c_4 => ?_) (fun c_4 => ?_)
      · have tc_4 : 1024 ≤ k.toInt := v_le c_4
        refine lv_iconst (v := (-1)) hx hb dX3_placeFor_68 (by decide) ?_
        exact kl_i (v := (-1)) hQQ hx hb hr hlocks hS dX3_placeFor_69 (fun PZ9 kZ9 => kZ9 (⟨hP, hD⟩) (by decide) (F_pf_eq (Or.inl ⟨rfl, fun q h1 h2 => hq q h1 (by omega)⟩) (by rw [ex_3, ex_2]; rfl)))
      · have tc_4 : k.toInt < 1024 := v_nle c_4
        refine lv_iload hx hb dX3_placeFor_26 (lv_at hl 1 rfl) ?_
        refine lv_iload hx hb dX3_placeFor_28 (lv_at hl 0 rfl) ?_
        refine lv_iadd hx hb dX3_placeFor_30 ?_
        refine lv_topi (fun x_5 ex_5 => ?_)
        have tx_5 : x_5.toInt = x_3.toInt + k.toInt := v_add ex_5 (by show -2147483648 ≤ x_3.toInt + k.toInt; omega) (by show x_3.toInt + k.toInt < 2147483648; omega)
        refine lv_sipush (v := 1023) hx hb dX3_placeFor_31 (by decide) ?_
        refine lv_iand hx hb dX3_placeFor_34 ?_
        refine lv_topi (fun x_6 ex_6 => ?_)
        have tx_6 : 0 ≤ x_6.toInt ∧ x_6.toInt < 1024 := v_and 10 ex_6 (by decide) (by decide)
        refine lv_istore (lv' := [(6, .int x_6), (5, .int k), (4, .int x_3), (3, .int (pk2 x y)), (0, .ref oK), (1, .int x), (2, .int y)]) hx hb dX3_placeFor_35 hl (by decide) rfl (fun ls hl => ?_)
        refine lv_aload_n hx hb dX3_placeFor_37 rfl (lv_at hl 4 rfl) ?_
        refine va_get (D := (dC, dI)) (ci := 3) (v := .ref k2) (C := RX3) (T := TX3) (N := 3) hx hb hts in_X3 hown hK hP 0 rfl rfl 1 (Nat.le_of_ble_eq_true rfl) (hts (.fieldLink RX3 15 "TextMender$Costs" "value" "[I") (List.mem_of_getElem? (i := 2) rfl)) (fun _ h9 => h9) rfl dX3_placeFor_38 ?_
        refine lv_iload hx hb dX3_placeFor_41 (lv_at hl 0 rfl) ?_
        refine va_iald hx hb hK hP 2 0 rfl rfl (v_in (by omega)) dX3_placeFor_43 ?_
        refine lv_topi (fun x_7 ex_7 => ?_)
        refine lv_iconst (v := (-1)) hx hb dX3_placeFor_44 (by decide) ?_
        refine lv_icmp_eq (tgt := 59) hx hb dX3_placeFor_45 (by decide) (fun c_8 => ?_) (fun c_8 => ?_)
        · have tc_8 : x_7.toInt = (-1) := v_eq c_8
          refine lv_iload hx hb dX3_placeFor_59 (lv_at hl 0 rfl) ?_
          exact kl_i (v := x_6) hQQ hx hb hr hlocks hS dX3_placeFor_61 (fun PZ9 kZ9 => kZ9 (⟨hP, hD⟩) (by omega) (F_pf_eq (Or.inr ⟨by omega, way_here hq ex_5 ex_6 (Or.inl (by rw [← ex_7]; exact c_8)) (by omega) (by omega)⟩) (by rw [ex_3, ex_2]; rfl)))
        · have tc_8 : ¬ x_7.toInt = (-1) := v_ne c_8
          refine lv_aload_n hx hb dX3_placeFor_48 rfl (lv_at hl 4 rfl) ?_
          refine va_get (D := (dC, dI)) (ci := 3) (v := .ref k1) (C := RX3) (T := TX3) (N := 3) hx hb hts in_X3 hown hK hP 0 rfl rfl 0 (Nat.le_of_ble_eq_true rfl) (hts (.fieldLink RX3 11 "TextMender$Costs" "pair" "[I") (List.mem_of_getElem? (i := 3) rfl)) (fun _ h9 => h9) rfl dX3_placeFor_49 ?_
          refine lv_iload hx hb dX3_placeFor_52 (lv_at hl 0 rfl) ?_
          refine va_iald hx hb hK hP 1 0 rfl rfl (v_in (by omega)) dX3_placeFor_54 ?_
          refine lv_topi (fun x_9 ex_9 => ?_)
          refine lv_iload_n hx hb dX3_placeFor_55 rfl (lv_at hl 3 rfl) ?_
          refine lv_icmp_ne (tgt := 62) hx hb dX3_placeFor_56 (by decide) (fun c_10 => ?_) (fun c_10 => ?_)
          · have tc_10 : ¬ x_9.toInt = (pk2 x y).toInt := v_ne c_10
            have rw10_0 := v_rng x_9
            obtain ⟨x_11, ex_11⟩ : ∃ y : Int32, y = k + 1 := ⟨_, rfl⟩
            have tx_11 : x_11.toInt = k.toInt + 1 := v_addR (l2 := 1) (h2 := 1) ex_11 g_k (by decide) (by decide) (by decide)
            refine lv_iinc (v := x_11) (lv' := [(5, .int x_11), (6, .int x_6), (4, .int x_3), (3, .int (pk2 x y)), (0, .ref oK), (1, .int x), (2, .int y)]) hx hb dX3_placeFor_62 hl (k := 1) rfl (by rw [ex_11]; rfl) (by decide) rfl (fun ls hl => ?_)
            refine lv_goto (tgt := 18) hx hb dX3_placeFor_65 (by decide) ?_
            exact ih_18 x_11 _ _ _ (ms_lt hm_18 (by show ((1024 - x_11.toInt : Int)) < 1024 - k.toInt; omega) (by show (0 : Int) < 1024 - k.toInt; omega)) (by show 0 ≤ x_11.toInt ∧ x_11.toInt ≤ 1024; omega) (way_step hq ex_5 ex_6 ex_7 ex_9 c_8 c_10 (by omega)) hP hD hS (lv_sub hl [0, 2, 3, 4, 5, 6] rfl)
          · have tc_10 : x_9.toInt = (pk2 x y).toInt := v_eq c_10
            have rw10_0 := v_rng x_9
            refine lv_iload hx hb dX3_placeFor_59 (lv_at hl 0 rfl) ?_
            exact kl_i (v := x_6) hQQ hx hb hr hlocks hS dX3_placeFor_61 (fun PZ9 kZ9 => kZ9 (⟨hP, hD⟩) (by omega) (F_pf_eq (Or.inr ⟨by omega, way_here hq ex_5 ex_6 (Or.inr (by rw [← ex_9]; exact c_10)) (by omega) (by omega)⟩) (by rw [ex_3, ex_2]; rfl)))
  exact LOOP_18 _ 0 _ _ _ (ms_s _) (by decide) (fun q h1 h2 => absurd h2 (by show ¬ q.toInt < 0; omega)) hP hD hS (lv_sub hl [0, 1, 2, 3, 4, 5] rfl)

theorem hsK_r (w : Int32) : 0 ≤ (hsK w).toInt ∧ (hsK w).toInt < 1024 := v_ushr 22 rfl (by decide) (by decide) (by decide)
theorem pk2_nat {X Y : Nat} (hX : X < 65536) (hY : Y < 65536) : (pk2 (nI X) (nI Y)).toBitVec.toNat = X * 65536 + Y := by
  unfold pk2
  rw [Int32.toBitVec_or, BitVec.toNat_or, pk_shl _ _ 16 (by decide), pk_tn (by omega), pk_tn (by omega), Nat.mod_eq_of_lt (by omega)]
  have h := Nat.shiftLeft_add_eq_or_of_lt (b := Y) (i := 16) (by omega) X
  rw [Nat.shiftLeft_eq] at h
  rw [← h]
theorem let_nat {x : Int32} (h : 0 ≤ x.toInt ∧ x.toInt ≤ 65535) : ∃ X : Nat, X < 65536 ∧ x = nI X := by
  obtain ⟨j, hj, e⟩ := nI_of (v_nneg h.1)
  rw [e, nI_toInt hj] at h
  exact ⟨j, by omega, e⟩
theorem pk2_inj {x y x' y' : Int32} (hx : 0 ≤ x.toInt ∧ x.toInt ≤ 65535) (hy : 0 ≤ y.toInt ∧ y.toInt ≤ 65535) (hx' : 0 ≤ x'.toInt ∧ x'.toInt ≤ 65535) (hy' : 0 ≤ y'.toInt ∧ y'.toInt ≤ 65535) (h : pk2 x y = pk2 x' y') : x = x' ∧ y = y' := by
  obtain ⟨X, hX, rfl⟩ := let_nat hx
  obtain ⟨Y, hY, rfl⟩ := let_nat hy
  obtain ⟨X', hX', rfl⟩ := let_nat hx'
  obtain ⟨Y', hY', rfl⟩ := let_nat hy'
  have e := congrArg (fun z : Int32 => z.toBitVec.toNat) h
  simp only [pk2_nat hX hY, pk2_nat hX' hY'] at e
  have e1 : X = X' := by omega
  have e2 : Y = Y' := by omega
  rw [e1, e2]; exact ⟨rfl, rfl⟩
def tK (N : Int) (K V : Nat → Int32) (w : Int32) : Prop := ∃ s : Nat, (s : Int) < N ∧ K s = w ∧ ¬ V s = -1
theorem tK_no {N : Int} {M r w : Int32} {hs : Int32 → Int32} {K V : Nat → Int32} (hT : HT N M hs K V) (h : F_pl N M (hs w) w r K V) (hf : V r.toNatClampNeg = -1) : ¬ tK N K V w := by
  rintro ⟨s, h1, h2, h3⟩
  exact pl_free (v := V s) hT h hf ⟨s, h1, h2, rfl, h3⟩
/-- there is always a place -/
theorem pf_found {l w r : Int32} {K V : Nat → Int32} (h : F_pf 1024 1023 (hsK w) w r K V) (ho : (occ V 1024 : Int) ≤ l.toInt) (hl : l.toInt ≤ 300) : 0 ≤ r.toInt ∧ F_pl 1024 1023 (hsK w) w r K V := by
  rcases h with ⟨_, h⟩ | h
  · exfalso
    obtain ⟨s, h1, h2⟩ := occ_free V 1024 (by omega)
    obtain ⟨q, q0, q1, q2⟩ := way_all (M := 1023) (st := hsK w) (s := s) 10 (by decide) (by decide) (hsK_r w) h1
    exact (h q q0 q1).1 (by rw [q2]; exact h2)
  · exact h
def okv (v : Int32) : Prop := 0 ≤ v.toInt ∧ v.toInt ≤ 200
/-- what tell does -/
def F_tk (l l' r v w : Int32) (K K' V V' : Nat → Int32) : Prop := (r = 1 ∧ okv v ∧ ((tK 1024 K V w ∧ l'.toInt = l.toInt ∧ K' = K ∧ ∃ s : Nat, ¬ V s = -1 ∧ V' = upd V s v ∧ (s : Int) < 1024 ∧ K s = w) ∨ (¬ tK 1024 K V w ∧ l.toInt < 300 ∧ l'.toInt = l.toInt + 1 ∧ ∃ q : Int32, 0 ≤ q.toInt ∧ q.toInt < 1024 ∧ F_pl 1024 1023 (hsK w) w q K V ∧ V q.toNatClampNeg = -1 ∧ K' = upd K q.toNatClampNeg w ∧ V' = upd V q.toNatClampNeg v))) ∨ (r = 0 ∧ (¬ okv v ∨ (¬ tK 1024 K V w ∧ 300 ≤ l.toInt)) ∧ l' = l ∧ K' = K ∧ V' = V)
theorem okv_ne {v : Int32} (h : okv v) : ¬ v = -1 := fun e => by
  have h1 := h.1
  rw [e] at h1
  exact absurd h1 (by decide)
theorem F_tk_inv {l l' r v w : Int32} {K K' V V' : Nat → Int32} (hT : HT 1024 1023 hsK K V) (ho : (occ V 1024 : Int) ≤ l.toInt) (h : F_tk l l' r v w K K' V V') : HT 1024 1023 hsK K' V' ∧ (occ V' 1024 : Int) ≤ l'.toInt ∧ ∀ w', tK 1024 K' V' w' ↔ (tK 1024 K V w' ∨ (r = 1 ∧ w' = w)) := by
  rcases h with ⟨e, hv, ⟨t1, t2, t3, s, s1, s2, -⟩ | ⟨t1, t2, t3, q, q0, q1, q2, q3, q4, q5⟩⟩ | ⟨e, -, t1, t2, t3⟩
  · refine ⟨by rw [t3]; exact HT_set hT s1 (okv_ne hv) s2, by rw [s2, occ_same s1 (okv_ne hv)]; omega, fun w' => ?_⟩
    have sm : ∀ z, ¬ V z = -1 ↔ ¬ V' z = -1 := by
      intro z
      by_cases y : z = s
      · rw [s2, y, pk_us]; exact ⟨fun _ => okv_ne hv, fun _ => s1⟩
      · rw [s2, pk_un y]
    rw [t3]
    constructor
    · rintro ⟨z, z1, z2, z3⟩
      exact Or.inl ⟨z, z1, z2, (sm z).mpr z3⟩
    · rintro (⟨z, z1, z2, z3⟩ | ⟨_, e2⟩)
      · exact ⟨z, z1, z2, (sm z).mp z3⟩
      · rw [e2]
        obtain ⟨z, z1, z2, z3⟩ := t1
        exact ⟨z, z1, z2, (sm z).mp z3⟩
  · have a := v_clamp q0
    refine ⟨HT_new hT q2 q3 (okv_ne hv) q4 q5, ?_, fun w' => ?_⟩
    · have := occ_upd V q.toNatClampNeg v 1024
      rw [q5]; omega
    · constructor
      · rintro ⟨z, z1, z2, z3⟩
        by_cases y : z = q.toNatClampNeg
        · refine Or.inr ⟨e, ?_⟩
          rw [← z2, q4, y, pk_us]
        · rw [q4, pk_un y] at z2
          rw [q5, pk_un y] at z3
          exact Or.inl ⟨z, z1, z2, z3⟩
      · rintro (⟨z, z1, z2, z3⟩ | ⟨_, e2⟩)
        · have y : z ≠ q.toNatClampNeg := fun y => z3 (by rw [y]; exact q3)
          exact ⟨z, z1, by rw [q4, pk_un y]; exact z2, by rw [q5, pk_un y]; exact z3⟩
        · exact ⟨q.toNatClampNeg, by omega, by rw [q4, pk_us, e2], by rw [q5, pk_us]; exact okv_ne hv⟩
  · refine ⟨by rw [t2, t3]; exact hT, by rw [t1, t3]; exact ho, fun w' => ?_⟩
    rw [t2, t3]
    constructor
    · exact Or.inl
    · rintro (z | ⟨z, _⟩)
      · exact z
      · rw [e] at z; exact absurd z (by decide)

set_option maxHeartbeats 40000000 in
set_option maxRecDepth 100000 in
theorem f_X3_tell (l : Launch) (dC : Nat → ClassId) (dI : Nat → Nat → Nat) (cI cS : ClassId) (sz : Nat) (oK : Nat) (k1 : Nat) (k2 : Nat) (lK : Int32) (fK1 : Nat → Int32) (fK2 : Nat → Int32) (x : Int32) (y : Int32) (v : Int32) (g_lK : 0 ≤ lK.toInt ∧ lK.toInt ≤ 300) (hT : HT 1024 1023 hsK fK1 fK2) (ho : (occ fK2 1024 : Int) ≤ lK.toInt) : kMi l yX3_tell wsX3_tell ({ frames := 2, cells := 0, slots := 0, locals := 47 } : Room) [.ref oK, .int x, .int y, .int v] sz (dC, dI) vwCl [(cI, .int), (cS, .short)] [(oK, .inr (3, [.ref k1, .ref k2, .int lK])), (k1, .inl (cI, 1024, .inl fK1)), (k2, .inl (cI, 1024, .inl fK2))] (fun _ => True) 0 0 (fun (A : Nat → Prop) (r : Int32) (hh9 : Heap) => ∀ PZ9 : Prop, (∀ (lK' : Int32) (fK1' : Nat → Int32) (fK2' : Nat → Int32), kPD (dC, dI) vwCl A [(oK, .inr (3, [.ref k1, .ref k2, .int lK'])), (k1, .inl (cI, 1024, .inl fK1')), (k2, .inl (cI, 1024, .inl fK2'))] hh9 → (0 ≤ lK'.toInt ∧ lK'.toInt ≤ 300) → (0 ≤ r.toInt ∧ r.toInt ≤ 1) → (F_tk lK lK' r v (pk2 x y) fK1 fK1' fK2 fK2') → PZ9) → PZ9) := by
  refine kMi_of (cc := cX3_tell) (maxL := 5) (ret := (some .boolean)) (lv := [(0, .ref oK), (1, .int x), (2, .int y), (3, .int v)]) (by decide +kernel) rfl rfl (Nat.le_of_ble_eq_true rfl) ?_
  intro p e s m below meth c A QQ ls hx hb hr hts hml hown hlocks hA hQQ hK hX hP hD hS hl
  have hown : s.vm.findClass RX3 = some m.cls := hown
  have hcf := k_cf hx hb hml hown hts
  have in_X3 : ∀ w ∈ wsX30, w ∈ wsX3_tell := fun _ h => List.mem_cons_of_mem _ (List.mem_append_left _ (List.mem_append_left _ (List.mem_append_right _ (h))))
  refine lv_aload_n hx hb dX3_tell_0 rfl (lv_at hl 0 rfl) ?_
  refine lv_iload_n hx hb dX3_tell_1 rfl (lv_at hl 1 rfl) ?_
  refine lv_iload_n hx hb dX3_tell_2 rfl (lv_at hl 2 rfl) ?_
  refine kV_i (rest := []) (q0 := 0) (ci := 3) hcf (f_X3_placeFor l dC dI cI cS s.heap.size oK k1 k2 lK fK1 fK2 x y (g_lK)) kc_X3_placeFor gX3_tell_X3_placeFor rfl rfl rfl ⟨Nat.le_of_ble_eq_true rfl, Nat.le_of_ble_eq_true rfl⟩ kX_t hK hP hD hS hA [0, 1, 2] [] rfl (by decide +kernel) rfl rfl rfl hl rfl (Nat.le_of_ble_eq_true rfl) dX3_tell_3 ⟨Nat.le_of_ble_eq_true rfl, Nat.le_of_ble_eq_true rfl⟩ (fun r_1 H locs hB hJ hSn => ?_)
  refine hB _ (fun hPD9 hf1_0 hf1_1 => ?_)
  clear hB
  obtain ⟨hPn, hDn⟩ := hJ _ hPD9.1 hPD9.2 [(oK, .inr (3, [.ref k1, .ref k2, .int lK])), (k1, .inl (cI, 1024, .inl fK1)), (k2, .inl (cI, 1024, .inl fK2))] rfl
  clear hP hD hS hJ hPD9
  have hP := hPn
  have hD := hDn
  have hS := hSn
  clear hPn hDn hSn
  have hpf1 := pf_found hf1_1 ho (by omega)
  refine lv_istore (lv' := [(4, .int r_1), (0, .ref oK), (1, .int x), (2, .int y), (3, .int v)]) hx hb dX3_tell_6 hl (by decide) rfl (fun ls hl => ?_)
  refine lv_iload hx hb dX3_tell_8 (lv_at hl 0 rfl) ?_
  refine lv_iconst (v := (-1)) hx hb dX3_tell_10 (by decide) ?_
  refine lv_icmp_eq (tgt := 25) hx hb dX3_tell_11 (by decide) (fun c_2 => ?_) (fun c_2 => ?_)
  · have tc_2 : r_1.toInt = (-1) := v_eq c_2
    refine lv_iconst (v := 0) hx hb dX3_tell_25 (by decide) ?_
    exact kl_z (v := 0) hQQ hx hb hr hlocks hS dX3_tell_26 (rfl) (fun PZ9 kZ9 => kZ9 lK fK1 fK2 (⟨hP, hD⟩) (g_lK) (by decide) (Or.inr ⟨rfl, Or.inl (by unfold okv; omega), rfl, rfl, rfl⟩))
  · have tc_2 : ¬ r_1.toInt = (-1) := v_ne c_2
    refine lv_iload_n hx hb dX3_tell_14 rfl (lv_at hl 4 rfl) ?_
    refine lv_if_lt (tgt := 25) hx hb dX3_tell_15 (by decide) (fun c_3 => ?_) (fun c_3 => ?_)
    · have tc_3 : v.toInt < 0 := v_lt c_3
      refine lv_iconst (v := 0) hx hb dX3_tell_25 (by decide) ?_
      exact kl_z (v := 0) hQQ hx hb hr hlocks hS dX3_tell_26 (rfl) (fun PZ9 kZ9 => kZ9 lK fK1 fK2 (⟨hP, hD⟩) (g_lK) (by decide) (Or.inr ⟨rfl, Or.inl (by unfold okv; omega), rfl, rfl, rfl⟩))
    · have tc_3 : 0 ≤ v.toInt := v_nlt c_3
      refine lv_iload_n hx hb dX3_tell_18 rfl (lv_at hl 4 rfl) ?_
      refine lv_sipush (v := 200) hx hb dX3_tell_19 (by decide) ?_
      refine lv_icmp_le (tgt := 27) hx hb dX3_tell_22 (by decide) (fun c_4 => ?_) (fun c_4 => ?_)
      · have tc_4 : v.toInt ≤ 200 := v_le c_4
        refine lv_aload_n hx hb dX3_tell_27 rfl (lv_at hl 1 rfl) ?_
        refine va_get (D := (dC, dI)) (ci := 3) (v := .ref k2) (C := RX3) (T := TX3) (N := 3) hx hb hts in_X3 hown hK hP 0 rfl rfl 1 (Nat.le_of_ble_eq_true rfl) (hts (.fieldLink RX3 15 "TextMender$Costs" "value" "[I") (List.mem_of_getElem? (i := 1) rfl)) (fun _ h9 => h9) rfl dX3_tell_28 ?_
        refine lv_iload hx hb dX3_tell_31 (lv_at hl 0 rfl) ?_
        refine va_iald hx hb hK hP 2 0 rfl rfl (v_in (by omega)) dX3_tell_33 ?_
        refine lv_topi (fun x_5 ex_5 => ?_)
        refine lv_iconst (v := (-1)) hx hb dX3_tell_34 (by decide) ?_
        refine lv_icmp_ne (tgt := 72) hx hb dX3_tell_35 (by decide) (fun c_6 => ?_) (fun c_6 => ?_)
        · have tc_6 : ¬ x_5.toInt = (-1) := v_ne c_6
          refine lv_aload_n hx hb dX3_tell_72 rfl (lv_at hl 1 rfl) ?_
          refine va_get (D := (dC, dI)) (ci := 3) (v := .ref k2) (C := RX3) (T := TX3) (N := 3) hx hb hts in_X3 hown hK hP 0 rfl rfl 1 (Nat.le_of_ble_eq_true rfl) (hts (.fieldLink RX3 15 "TextMender$Costs" "value" "[I") (List.mem_of_getElem? (i := 1) rfl)) (fun _ h9 => h9) rfl dX3_tell_73 ?_
          refine lv_iload hx hb dX3_tell_76 (lv_at hl 0 rfl) ?_
          refine lv_iload_n hx hb dX3_tell_78 rfl (lv_at hl 4 rfl) ?_
          obtain ⟨f_7, ef_7⟩ : ∃ g : Nat → Int32, g = upd fK2 (r_1 : Int32).toNatClampNeg v := ⟨_, rfl⟩
          refine va_iast hx hb hK hP hD hS 2 0 rfl rfl (v_in (by omega)) dX3_tell_79 (kWf (g := f_7) (F := fun f_7 => [(oK, .inr (3, [.ref k1, .ref k2, .int lK])), (k1, .inl (cI, 1024, .inl fK1)), (k2, .inl (cI, 1024, .inl f_7))]) ef_7 rfl (fun H locs hPn hDn hSn => ?_))
          clear hP hD hS
          have hP := hPn
          have hD := hDn
          have hS := hSn
          clear hPn hDn hSn
          refine lv_iconst (v := 1) hx hb dX3_tell_80 (by decide) ?_
          exact kl_z (v := 1) hQQ hx hb hr hlocks hS dX3_tell_81 (rfl) (fun PZ9 kZ9 => kZ9 lK fK1 f_7 (⟨hP, hD⟩) (g_lK) (by decide) (Or.inl ⟨rfl, by unfold okv; omega, Or.inl ⟨⟨r_1.toNatClampNeg, by have c9 := v_clamp (x := r_1) (by omega); omega, pl_own hpf1.2 (by rw [← ex_5]; exact c_6), by rw [← ex_5]; exact c_6⟩, rfl, rfl, r_1.toNatClampNeg, by rw [← ex_5]; exact c_6, ef_7, by have c9 := v_clamp (x := r_1) (by omega); omega, pl_own hpf1.2 (by rw [← ex_5]; exact c_6)⟩⟩))
        · have tc_6 : x_5.toInt = (-1) := v_eq c_6
          refine lv_aload_n hx hb dX3_tell_38 rfl (lv_at hl 1 rfl) ?_
          refine va_get (D := (dC, dI)) (ci := 3) (v := .int lK) (C := RX3) (T := TX3) (N := 3) hx hb hts in_X3 hown hK hP 0 rfl rfl 2 (Nat.le_of_ble_eq_true rfl) (hts (.fieldLink RX3 24 "TextMender$Costs" "length" "I") (List.mem_of_getElem? (i := 2) rfl)) (fun _ h9 => h9) rfl dX3_tell_39 ?_
          refine lv_sipush (v := 300) hx hb dX3_tell_42 (by decide) ?_
          refine lv_icmp_lt (tgt := 50) hx hb dX3_tell_45 (by decide) (fun c_8 => ?_) (fun c_8 => ?_)
          · have tc_8 : lK.toInt < 300 := v_lt c_8
            refine lv_aload_n hx hb dX3_tell_50 rfl (lv_at hl 1 rfl) ?_
            refine va_get (D := (dC, dI)) (ci := 3) (v := .ref k1) (C := RX3) (T := TX3) (N := 3) hx hb hts in_X3 hown hK hP 0 rfl rfl 0 (Nat.le_of_ble_eq_true rfl) (hts (.fieldLink RX3 11 "TextMender$Costs" "pair" "[I") (List.mem_of_getElem? (i := 3) rfl)) (fun _ h9 => h9) rfl dX3_tell_51 ?_
            refine lv_iload hx hb dX3_tell_54 (lv_at hl 0 rfl) ?_
            refine lv_iload_n hx hb dX3_tell_56 rfl (lv_at hl 2 rfl) ?_
            refine lv_iload_n hx hb dX3_tell_57 rfl (lv_at hl 3 rfl) ?_
            refine kS_i (rest := [.int r_1, .ref k1]) hcf (f_X3_pairOf l dC dI cI cS H.size x y ) kc_X3_pairOf gX3_tell_X3_pairOf rfl rfl ⟨Nat.le_of_ble_eq_true rfl, Nat.le_of_ble_eq_true rfl⟩ kX_t hK hP hD hS hA [] [0, 1, 2] rfl (by decide +kernel) rfl hl rfl (Nat.le_of_ble_eq_true rfl) dX3_tell_58 ⟨Nat.le_of_ble_eq_true rfl, Nat.le_of_ble_eq_true rfl⟩ (fun r_9 H locs hB hJ hSn => ?_)
            refine hB _ (fun hPD9 hf9_0 => ?_)
            clear hB
            obtain ⟨hPn, hDn⟩ := hJ _ hPD9.1 hPD9.2 [(oK, .inr (3, [.ref k1, .ref k2, .int lK])), (k1, .inl (cI, 1024, .inl fK1)), (k2, .inl (cI, 1024, .inl fK2))] rfl
            clear hP hD hS hJ hPD9
            have hP := hPn
            have hD := hDn
            have hS := hSn
            clear hPn hDn hSn
            rw [hf9_0]
            obtain ⟨f_10, ef_10⟩ : ∃ g : Nat → Int32, g = upd fK1 (r_1 : Int32).toNatClampNeg (pk2 x y) := ⟨_, rfl⟩
            refine va_iast hx hb hK hP hD hS 1 0 rfl rfl (v_in (by omega)) dX3_tell_61 (kWf (g := f_10) (F := fun f_10 => [(oK, .inr (3, [.ref k1, .ref k2, .int lK])), (k1, .inl (cI, 1024, .inl f_10)), (k2, .inl (cI, 1024, .inl fK2))]) ef_10 rfl (fun H locs hPn hDn hSn => ?_))
            clear hP hD hS
            have hP := hPn
            have hD := hDn
            have hS := hSn
            clear hPn hDn hSn
            refine lv_aload_n hx hb dX3_tell_62 rfl (lv_at hl 1 rfl) ?_
            refine lv_dup hx hb dX3_tell_63 rfl ?_
            refine va_get (D := (dC, dI)) (ci := 3) (v := .int lK) (C := RX3) (T := TX3) (N := 3) hx hb hts in_X3 hown hK hP 0 rfl rfl 2 (Nat.le_of_ble_eq_true rfl) (hts (.fieldLink RX3 24 "TextMender$Costs" "length" "I") (List.mem_of_getElem? (i := 2) rfl)) (fun _ h9 => h9) rfl dX3_tell_64 ?_
            refine lv_iconst (v := 1) hx hb dX3_tell_67 (by decide) ?_
            refine lv_iadd hx hb dX3_tell_68 ?_
            refine lv_topi (fun x_11 ex_11 => ?_)
            have tx_11 : x_11.toInt = lK.toInt + 1 := v_addR (l2 := 1) (h2 := 1) ex_11 g_lK (by decide) (by decide) (by decide)
            refine va_put (D := (dC, dI)) (ci := 3) (v := .int x_11) (ty := .int) (C := RX3) (T := TX3) (N := 3) hx hb hts in_X3 tyX3 tyX3_ok nmX3 hown hK hP hD hS 0 rfl rfl 2 (Nat.le_of_ble_eq_true rfl) (hts (.fieldLink RX3 24 "TextMender$Costs" "length" "I") (List.mem_of_getElem? (i := 2) rfl)) (fun _ h9 => h9) rfl (tyX3_ok 2 (Nat.le_of_ble_eq_true rfl)) rfl rfl (Nat.le_of_ble_eq_true rfl) dX3_tell_69 (kW (wn := [(oK, .inr (3, [.ref k1, .ref k2, .int x_11])), (k1, .inl (cI, 1024, .inl f_10)), (k2, .inl (cI, 1024, .inl fK2))]) rfl (fun H locs hPn hDn hSn => ?_))
            clear hP hD hS
            have hP := hPn
            have hD := hDn
            have hS := hSn
            clear hPn hDn hSn
            refine lv_aload_n hx hb dX3_tell_72 rfl (lv_at hl 1 rfl) ?_
            refine va_get (D := (dC, dI)) (ci := 3) (v := .ref k2) (C := RX3) (T := TX3) (N := 3) hx hb hts in_X3 hown hK hP 0 rfl rfl 1 (Nat.le_of_ble_eq_true rfl) (hts (.fieldLink RX3 15 "TextMender$Costs" "value" "[I") (List.mem_of_getElem? (i := 1) rfl)) (fun _ h9 => h9) rfl dX3_tell_73 ?_
            refine lv_iload hx hb dX3_tell_76 (lv_at hl 0 rfl) ?_
            refine lv_iload_n hx hb dX3_tell_78 rfl (lv_at hl 4 rfl) ?_
            obtain ⟨f_12, ef_12⟩ : ∃ g : Nat → Int32, g = upd fK2 (r_1 : Int32).toNatClampNeg v := ⟨_, rfl⟩
            refine va_iast hx hb hK hP hD hS 2 0 rfl rfl (v_in (by omega)) dX3_tell_79 (kWf (g := f_12) (F := fun f_12 => [(oK, .inr (3, [.ref k1, .ref k2, .int x_11])), (k1, .inl (cI, 1024, .inl f_10)), (k2, .inl (cI, 1024, .inl f_12))]) ef_12 rfl (fun H locs hPn hDn hSn => ?_))
            clear hP hD hS
            have hP := hPn
            have hD := hDn
            have hS := hSn
            clear hPn hDn hSn
            refine lv_iconst (v := 1) hx hb dX3_tell_80 (by decide) ?_
            exact kl_z (v := 1) hQQ hx hb hr hlocks hS dX3_tell_81 (rfl) (fun PZ9 kZ9 => kZ9 x_11 f_10 f_12 (⟨hP, hD⟩) (by omega) (by decide) (Or.inl ⟨rfl, by unfold okv; omega, Or.inr ⟨(tK_no hT hpf1.2 (by rw [← ex_5]; exact c_6)), by omega, by omega, r_1, by omega, by omega, hpf1.2, by rw [← ex_5]; exact c_6, ef_10, ef_12⟩⟩))
          · have tc_8 : 300 ≤ lK.toInt := v_nlt c_8
            refine lv_iconst (v := 0) hx hb dX3_tell_48 (by decide) ?_
            exact kl_z (v := 0) hQQ hx hb hr hlocks hS dX3_tell_49 (rfl) (fun PZ9 kZ9 => kZ9 lK fK1 fK2 (⟨hP, hD⟩) (g_lK) (by decide) (Or.inr ⟨rfl, Or.inr ⟨(tK_no hT hpf1.2 (by rw [← ex_5]; exact c_6)), by omega⟩, rfl, rfl, rfl⟩))
      · have tc_4 : 200 < v.toInt := v_nle c_4
        refine lv_iconst (v := 0) hx hb dX3_tell_25 (by decide) ?_
        exact kl_z (v := 0) hQQ hx hb hr hlocks hS dX3_tell_26 (rfl) (fun PZ9 kZ9 => kZ9 lK fK1 fK2 (⟨hP, hD⟩) (g_lK) (by decide) (Or.inr ⟨rfl, Or.inl (by unfold okv; omega), rfl, rfl, rfl⟩))

def noP (n : Int) (a b : Int32) (f g : Nat → Int32) : Prop := ∀ j : Nat, (j : Int) < n → ¬ (f j = a ∧ g j = b)
def isP (n : Int) (a b : Int32) (f g : Nat → Int32) : Prop := ∃ j : Nat, (j : Int) < n ∧ f j = a ∧ g j = b
theorem noP_0 {n : Int} {a b : Int32} {f g : Nat → Int32} (h : n ≤ 0) : noP n a b f g := fun j hj => by omega
theorem noP_s1 {a b k k' x : Int32} {f g : Nat → Int32} (h : noP k.toInt a b f g) (ex : x = f k.toNatClampNeg) (hx : ¬ x = a) (hk : 0 ≤ k.toInt) (hk' : k'.toInt = k.toInt + 1) : noP k'.toInt a b f g := by
  intro j hj
  have q := v_clamp hk
  by_cases z : j = k.toNatClampNeg
  · rw [z, ← ex]; exact fun w => hx w.1
  · exact h j (by omega)
theorem noP_s2 {a b k k' y : Int32} {f g : Nat → Int32} (h : noP k.toInt a b f g) (ey : y = g k.toNatClampNeg) (hy : ¬ y = b) (hk : 0 ≤ k.toInt) (hk' : k'.toInt = k.toInt + 1) : noP k'.toInt a b f g := by
  intro j hj
  have q := v_clamp hk
  by_cases z : j = k.toNatClampNeg
  · rw [z, ← ey]; exact fun w => hy w.2
  · exact h j (by omega)
theorem isP_at {n : Int} {a b k x y : Int32} {f g : Nat → Int32} (ex : x = f k.toNatClampNeg) (ey : y = g k.toNatClampNeg) (hx : x = a) (hy : y = b) (hk : 0 ≤ k.toInt) (hn : k.toInt < n) : isP n a b f g := by
  have q := v_clamp hk
  exact ⟨k.toNatClampNeg, by omega, by rw [← ex]; exact hx, by rw [← ey]; exact hy⟩
theorem noP_isP {n : Int} {a b : Int32} {f g : Nat → Int32} (h : noP n a b f g) (h2 : isP n a b f g) : False := by
  obtain ⟨j, h1, h3⟩ := h2
  exact h j h1 h3

def isLq (x : Int32) : Prop := 0 ≤ x.toInt ∧ x.toInt ≤ 65535 ∧ (x.toInt < 55296 ∨ 57343 < x.toInt)
def F_cst (l l' r x y v : Int32) (K K' V V' : Nat → Int32) : Prop := (isLq x ∧ isLq y ∧ F_tk l l' r v (pk2 x y) K K' V V') ∨ (r = 0 ∧ ¬ (isLq x ∧ isLq y) ∧ l' = l ∧ K' = K ∧ V' = V)
def F_ck (z z' r x y v : Int32) (X X' Y Y' Z Z' : Nat → Int32) : Prop := (isLq x ∧ isLq y ∧ ((r = 1 ∧ okv v ∧ ((isP z.toInt x y X Y ∧ z'.toInt = z.toInt ∧ ∃ k : Nat, X k = x ∧ Y k = y ∧ X' = upd X k x ∧ Y' = upd Y k y ∧ Z' = upd Z k v ∧ (k : Int) < z.toInt ∧ noP k x y X Y) ∨ (noP z.toInt x y X Y ∧ z.toInt < 300 ∧ z'.toInt = z.toInt + 1 ∧ X' = upd X z.toNatClampNeg x ∧ Y' = upd Y z.toNatClampNeg y ∧ Z' = upd Z z.toNatClampNeg v))) ∨ (r = 0 ∧ (¬ okv v ∨ (noP z.toInt x y X Y ∧ 300 ≤ z.toInt)) ∧ z' = z ∧ X' = X ∧ Y' = Y ∧ Z' = Z))) ∨ (r = 0 ∧ ¬ (isLq x ∧ isLq y) ∧ z' = z ∧ X' = X ∧ Y' = Y ∧ Z' = Z)
theorem upd_id {f : Nat → Int32} {k : Nat} {v : Int32} (h : f k = v) : upd f k v = f := by
  funext j
  by_cases z : j = k
  · rw [z, pk_us, h]
  · rw [pk_un z]
theorem F_ck_inv {z z' r x y v : Int32} {X X' Y Y' Z Z' : Nat → Int32} (hz : 0 ≤ z.toInt) (h : F_ck z z' r x y v X X' Y Y' Z Z') (x' y' : Int32) : isP z'.toInt x' y' X' Y' ↔ (isP z.toInt x' y' X Y ∨ (r = 1 ∧ x' = x ∧ y' = y)) := by
  have a := v_clamp hz
  rcases h with ⟨-, -, ⟨e, -, ⟨t1, t2, k, k1, k2, k3, k4, -⟩ | ⟨t1, t2, t3, t4, t5, -⟩⟩ | ⟨e, -, t1, t2, t3, -⟩⟩ | ⟨e, -, t1, t2, t3, -⟩
  · rw [upd_id k1] at k3
    rw [upd_id k2] at k4
    rw [k3, k4, t2]
    constructor
    · exact Or.inl
    · rintro (w | ⟨_, w1, w2⟩)
      · exact w
      · rw [w1, w2]; exact t1
  · constructor
    · rintro ⟨j, j1, j2, j3⟩
      by_cases w : j = z.toNatClampNeg
      · refine Or.inr ⟨e, ?_, ?_⟩
        · rw [← j2, t4, w, pk_us]
        · rw [← j3, t5, w, pk_us]
      · rw [t4, pk_un w] at j2
        rw [t5, pk_un w] at j3
        exact Or.inl ⟨j, by omega, j2, j3⟩
    · rintro (⟨j, j1, j2, j3⟩ | ⟨_, w1, w2⟩)
      · have w : j ≠ z.toNatClampNeg := by omega
        exact ⟨j, by omega, by rw [t4, pk_un w]; exact j2, by rw [t5, pk_un w]; exact j3⟩
      · exact ⟨z.toNatClampNeg, by omega, by rw [t4, pk_us, w1], by rw [t5, pk_us, w2]⟩
  · rw [t1, t2, t3]
    constructor
    · exact Or.inl
    · rintro (w | ⟨w, _⟩)
      · exact w
      · rw [e] at w; exact absurd w (by decide)
  · rw [t1, t2, t3]
    constructor
    · exact Or.inl
    · rintro (w | ⟨w, _⟩)
      · exact w
      · rw [e] at w; exact absurd w (by decide)
/-- the same pairs are told on both sides -/
def alK (zc : Int) (K V X Y : Nat → Int32) : Prop := ∀ x y : Int32, isLq x → isLq y → (tK 1024 K V (pk2 x y) ↔ isP zc x y X Y)
theorem isP_or {n : Int} {a b : Int32} {f g : Nat → Int32} (h : ¬ noP n a b f g) : isP n a b f g := Classical.byContradiction fun w => h (fun j h1 h2 => w ⟨j, h1, h2⟩)
theorem cost_r {l l' r z z' q x y v : Int32} {K K' V V' X X' Y Y' Z Z' : Nat → Int32} (hl : l.toInt = z.toInt) (hA : alK z.toInt K V X Y) (h1 : F_cst l l' r x y v K K' V V') (h2 : F_ck z z' q x y v X X' Y Y' Z Z') : r = q ∧ l'.toInt = z'.toInt := by
  rcases h1 with ⟨a1, a2, ⟨a3, a4, ⟨a5, a6, -⟩ | ⟨a5, a6, a7, -⟩⟩ | ⟨a3, a4, a5, -⟩⟩ | ⟨a3, a4, a5, -⟩ <;> rcases h2 with ⟨b1, b2, ⟨b3, b4, ⟨b5, b6, -⟩ | ⟨b5, b6, b7, -⟩⟩ | ⟨b3, b4, b5, -⟩⟩ | ⟨b3, b4, b5, -⟩
  · exact ⟨by rw [a3, b3], by omega⟩
  · exact absurd ((hA x y a1 a2).mp a5) (fun w => noP_isP b5 w)
  · exfalso; rcases b4 with w | w
    · exact w a4
    · exact noP_isP w.1 ((hA x y a1 a2).mp a5)
  · exact absurd ⟨a1, a2⟩ b4
  · exact absurd ((hA x y a1 a2).mpr b5) a5
  · exact ⟨by rw [a3, b3], by omega⟩
  · exfalso; rcases b4 with w | w
    · exact w a4
    · omega
  · exact absurd ⟨a1, a2⟩ b4
  · exfalso; rcases a4 with w | w
    · exact w b4
    · exact w.1 ((hA x y a1 a2).mpr b5)
  · exfalso; rcases a4 with w | w
    · exact w b4
    · omega
  · exact ⟨by rw [a3, b3], by rw [a5, b5]; exact hl⟩
  · exact absurd ⟨a1, a2⟩ b4
  · exact absurd ⟨b1, b2⟩ a4
  · exact absurd ⟨b1, b2⟩ a4
  · exact absurd ⟨b1, b2⟩ a4
  · exact ⟨by rw [a3, b3], by rw [a5, b5]; exact hl⟩
theorem isLq_r {x : Int32} (h : isLq x) : 0 ≤ x.toInt ∧ x.toInt ≤ 65535 := ⟨h.1, h.2.1⟩
theorem cost_inv {l l' r z z' q x y v : Int32} {K K' V V' X X' Y Y' Z Z' : Nat → Int32} (hz : 0 ≤ z.toInt) (hl : l.toInt = z.toInt) (hT : HT 1024 1023 hsK K V) (ho : (occ V 1024 : Int) ≤ l.toInt) (hA : alK z.toInt K V X Y) (h1 : F_cst l l' r x y v K K' V V') (h2 : F_ck z z' q x y v X X' Y Y' Z Z') : HT 1024 1023 hsK K' V' ∧ (occ V' 1024 : Int) ≤ l'.toInt ∧ alK z'.toInt K' V' X' Y' := by
  have hr := (cost_r hl hA h1 h2).1
  have hc := F_ck_inv hz h2
  rcases h1 with ⟨a1, a2, a3⟩ | ⟨a3, a4, a5, a6, a7⟩
  · obtain ⟨i1, i2, i3⟩ := F_tk_inv hT ho a3
    refine ⟨i1, i2, fun x' y' l1 l2 => ?_⟩
    rw [i3, hc, hA x' y' l1 l2, hr]
    constructor
    · rintro (w | ⟨w1, w2⟩)
      · exact Or.inl w
      · obtain ⟨e1, e2⟩ := pk2_inj (isLq_r l1) (isLq_r l2) (isLq_r a1) (isLq_r a2) w2
        exact Or.inr ⟨w1, e1, e2⟩
    · rintro (w | ⟨w1, w2, w3⟩)
      · exact Or.inl w
      · exact Or.inr ⟨w1, by rw [w2, w3]⟩
  · refine ⟨by rw [a6, a7]; exact hT, by rw [a5, a7]; exact ho, fun x' y' l1 l2 => ?_⟩
    rw [a6, a7, hc, hA x' y' l1 l2]
    constructor
    · exact Or.inl
    · rintro (w | ⟨w, _⟩)
      · exact w
      · rw [← hr, a3] at w; exact absurd w (by decide)

set_option maxHeartbeats 40000000 in
set_option maxRecDepth 100000 in
theorem f_X11_cost (l : Launch) (dC : Nat → ClassId) (dI : Nat → Nat → Nat) (cI cS : ClassId) (sz : Nat) (oX : Nat) (nT : Nat) (nL : Nat) (nM : Nat) (oC : Nat) (oP : Nat) (oH : Nat) (oK : Nat) (oG : Nat) (oR : Nat) (oQ : Nat) (oW : Nat) (k1 : Nat) (k2 : Nat) (nw : Nat) (w1 : Nat) (w2 : Nat) (w3 : Nat) (o7 : Nat) (o8 : Nat) (o9 : Nat) (w4 : Nat) (w5 : Nat) (w6 : Nat) (w7 : Nat) (fa : Int32) (lK : Int32) (fK1 : Nat → Int32) (fK2 : Nat → Int32) (ke : Int32) (tl : Int32) (fsh : Int32) (wi : Int32) (ri : Int32) (fm : Int32) (lm : Int32) (x : Int32) (y : Int32) (v : Int32) (g_lK : 0 ≤ lK.toInt ∧ lK.toInt ≤ 300) (g_ke : 0 ≤ ke.toInt ∧ ke.toInt ≤ 200) (g_fsh : 0 ≤ fsh.toInt ∧ fsh.toInt ≤ 1) (g_fm : -1 ≤ fm.toInt ∧ fm.toInt ≤ 800) (g_lm : -1 ≤ lm.toInt ∧ lm.toInt ≤ 800) (hT : HT 1024 1023 hsK fK1 fK2) (ho : (occ fK2 1024 : Int) ≤ lK.toInt) : kMi l yX11_cost wsX11_cost ({ frames := 3, cells := 0, slots := 0, locals := 71 } : Room) [.ref oX, .int x, .int y, .int v] sz (dC, dI) vwCl [(cI, .int), (cS, .short)] [(oX, .inr (11, [.ref nT, .ref nL, .ref nM, .ref oC, .ref oP, .ref oH, .ref oK, .ref oG, .ref oR, .ref oQ, .ref oW, .int fa])), (oK, .inr (3, [.ref k1, .ref k2, .int lK])), (k1, .inl (cI, 1024, .inl fK1)), (k2, .inl (cI, 1024, .inl fK2)), (oW, .inr (1, [.ref oC, .ref oK, .ref nw, .ref w1, .ref w2, .ref w3, .ref o7, .ref o8, .ref o9, .ref w4, .ref w5, .ref w6, .ref w7, .int ke, .int tl, .int fsh, .int wi, .int ri, .int fm, .int lm]))] (fun _ => True) 0 0 (fun (A : Nat → Prop) (r : Int32) (hh9 : Heap) => ∀ PZ9 : Prop, (∀ (lK' : Int32) (fK1' : Nat → Int32) (fK2' : Nat → Int32) (fsh' : Int32), kPD (dC, dI) vwCl A [(oX, .inr (11, [.ref nT, .ref nL, .ref nM, .ref oC, .ref oP, .ref oH, .ref oK, .ref oG, .ref oR, .ref oQ, .ref oW, .int fa])), (oK, .inr (3, [.ref k1, .ref k2, .int lK'])), (k1, .inl (cI, 1024, .inl fK1')), (k2, .inl (cI, 1024, .inl fK2')), (oW, .inr (1, [.ref oC, .ref oK, .ref nw, .ref w1, .ref w2, .ref w3, .ref o7, .ref o8, .ref o9, .ref w4, .ref w5, .ref w6, .ref w7, .int ke, .int tl, .int fsh', .int wi, .int ri, .int fm, .int lm]))] hh9 → (0 ≤ lK'.toInt ∧ lK'.toInt ≤ 300) → (0 ≤ fsh'.toInt ∧ fsh'.toInt ≤ 1) → (0 ≤ r.toInt ∧ r.toInt ≤ 1) → (F_cst lK lK' r x y v fK1 fK1' fK2 fK2') → (F_fs (0) r fsh fsh') → PZ9) → PZ9) := by
  refine kMi_of (cc := cX11_cost) (maxL := 4) (ret := (some .boolean)) (lv := [(0, .ref oX), (1, .int x), (2, .int y), (3, .int v)]) (by decide +kernel) rfl rfl (Nat.le_of_ble_eq_true rfl) ?_
  intro p e s m below meth c A QQ ls hx hb hr hts hml hown hlocks hA hQQ hK hX hP hD hS hl
  have hown : s.vm.findClass RX11 = some m.cls := hown
  have hcf := k_cf hx hb hml hown hts
  have in_X11 : ∀ w ∈ wsX110, w ∈ wsX11_cost := fun _ h => List.mem_cons_of_mem _ (List.mem_append_left _ (List.mem_append_left _ (List.mem_append_left _ (List.mem_append_left _ (List.mem_append_left _ (List.mem_append_right _ (h)))))))
  replace g_ke := hid g_ke
  replace g_fm := hid g_fm
  replace g_lm := hid g_lm
  refine lv_iload_n hx hb dX11_cost_0 rfl (lv_at hl 1 rfl) ?_
  refine kS_i (rest := []) hcf (m_X11_isLetter l dC dI cI cS s.heap.size x ) kc_X11_isLetter gX11_cost_X11_isLetter rfl rfl ⟨Nat.le_of_ble_eq_true rfl, Nat.le_of_ble_eq_true rfl⟩ kX_t hK hP hD hS hA [] [0, 1, 2, 3, 4] rfl (by decide +kernel) rfl hl rfl (Nat.le_of_ble_eq_true rfl) dX11_cost_1 ⟨Nat.le_of_ble_eq_true rfl, Nat.le_of_ble_eq_true rfl⟩ (fun r_1 H locs hB hJ hSn => ?_)
  refine hB _ (fun hPD9 hf1_0 hf1_1 => ?_)
  clear hB
  obtain ⟨hPn, hDn⟩ := hJ _ hPD9.1 hPD9.2 [(oX, .inr (11, [.ref nT, .ref nL, .ref nM, .ref oC, .ref oP, .ref oH, .ref oK, .ref oG, .ref oR, .ref oQ, .ref oW, .int fa])), (oK, .inr (3, [.ref k1, .ref k2, .int lK])), (k1, .inl (cI, 1024, .inl fK1)), (k2, .inl (cI, 1024, .inl fK2)), (oW, .inr (1, [.ref oC, .ref oK, .ref nw, .ref w1, .ref w2, .ref w3, .ref o7, .ref o8, .ref o9, .ref w4, .ref w5, .ref w6, .ref w7, .int ke, .int tl, .int fsh, .int wi, .int ri, .int fm, .int lm]))] rfl
  clear hP hD hS hJ hPD9
  have hP := hPn
  have hD := hDn
  have hS := hSn
  clear hPn hDn hSn
  refine lv_if_eq (tgt := 27) hx hb dX11_cost_4 (by decide) (fun c_2 => ?_) (fun c_2 => ?_)
  · have tc_2 : r_1.toInt = 0 := v_eq c_2
    refine lv_iconst (v := 0) hx hb dX11_cost_27 (by decide) ?_
    exact kl_z (v := 0) hQQ hx hb hr hlocks hS dX11_cost_28 (rfl) (fun PZ9 kZ9 => kZ9 lK fK1 fK2 fsh (⟨hP, hD⟩) (g_lK) (g_fsh) (by decide) (Or.inr ⟨rfl, by unfold isLq; omega, rfl, rfl, rfl⟩) (Or.inl ⟨by first | rfl | omega, rfl⟩))
  · have tc_2 : ¬ r_1.toInt = 0 := v_ne c_2
    refine lv_iload_n hx hb dX11_cost_7 rfl (lv_at hl 2 rfl) ?_
    refine kS_i (rest := []) hcf (m_X11_isLetter l dC dI cI cS H.size y ) kc_X11_isLetter gX11_cost_X11_isLetter rfl rfl ⟨Nat.le_of_ble_eq_true rfl, Nat.le_of_ble_eq_true rfl⟩ kX_t hK hP hD hS hA [] [0, 1, 2, 3, 4] rfl (by decide +kernel) rfl hl rfl (Nat.le_of_ble_eq_true rfl) dX11_cost_8 ⟨Nat.le_of_ble_eq_true rfl, Nat.le_of_ble_eq_true rfl⟩ (fun r_3 H locs hB hJ hSn => ?_)
    refine hB _ (fun hPD9 hf3_0 hf3_1 => ?_)
    clear hB
    obtain ⟨hPn, hDn⟩ := hJ _ hPD9.1 hPD9.2 [(oX, .inr (11, [.ref nT, .ref nL, .ref nM, .ref oC, .ref oP, .ref oH, .ref oK, .ref oG, .ref oR, .ref oQ, .ref oW, .int fa])), (oK, .inr (3, [.ref k1, .ref k2, .int lK])), (k1, .inl (cI, 1024, .inl fK1)), (k2, .inl (cI, 1024, .inl fK2)), (oW, .inr (1, [.ref oC, .ref oK, .ref nw, .ref w1, .ref w2, .ref w3, .ref o7, .ref o8, .ref o9, .ref w4, .ref w5, .ref w6, .ref w7, .int ke, .int tl, .int fsh, .int wi, .int ri, .int fm, .int lm]))] rfl
    clear hP hD hS hJ hPD9
    have hP := hPn
    have hD := hDn
    have hS := hSn
    clear hPn hDn hSn
    refine lv_if_eq (tgt := 27) hx hb dX11_cost_11 (by decide) (fun c_4 => ?_) (fun c_4 => ?_)
    · have tc_4 : r_3.toInt = 0 := v_eq c_4
      refine lv_iconst (v := 0) hx hb dX11_cost_27 (by decide) ?_
      exact kl_z (v := 0) hQQ hx hb hr hlocks hS dX11_cost_28 (rfl) (fun PZ9 kZ9 => kZ9 lK fK1 fK2 fsh (⟨hP, hD⟩) (g_lK) (g_fsh) (by decide) (Or.inr ⟨rfl, by unfold isLq; omega, rfl, rfl, rfl⟩) (Or.inl ⟨by first | rfl | omega, rfl⟩))
    · have tc_4 : ¬ r_3.toInt = 0 := v_ne c_4
      refine lv_aload_n hx hb dX11_cost_14 rfl (lv_at hl 0 rfl) ?_
      refine va_get (D := (dC, dI)) (ci := 11) (v := .ref oK) (C := RX11) (T := TX11) (N := 12) hx hb hts in_X11 hown hK hP 0 rfl rfl 6 (Nat.le_of_ble_eq_true rfl) (hts (.fieldLink RX11 52 "TextMender" "costs" "LTextMender$Costs;") (List.mem_of_getElem? (i := 1) rfl)) (fun _ h9 => h9) rfl dX11_cost_15 ?_
      refine lv_iload_n hx hb dX11_cost_18 rfl (lv_at hl 1 rfl) ?_
      refine lv_iload_n hx hb dX11_cost_19 rfl (lv_at hl 2 rfl) ?_
      refine lv_iload_n hx hb dX11_cost_20 rfl (lv_at hl 3 rfl) ?_
      refine kV_i (rest := []) (q0 := 0) (ci := 3) hcf (f_X3_tell l dC dI cI cS H.size oK k1 k2 lK fK1 fK2 x y v (g_lK) (hT) (ho)) kc_X3_tell gX11_cost_X3_tell rfl rfl rfl ⟨Nat.le_of_ble_eq_true rfl, Nat.le_of_ble_eq_true rfl⟩ kX_t hK hP hD hS hA [1, 2, 3] [0, 4] rfl (by decide +kernel) rfl rfl rfl hl rfl (Nat.le_of_ble_eq_true rfl) dX11_cost_21 ⟨Nat.le_of_ble_eq_true rfl, Nat.le_of_ble_eq_true rfl⟩ (fun r_5 H locs hB hJ hSn => ?_)
      refine hB _ (fun lK_5 fK1_5 fK2_5 hPD9 hf5_0 hf5_1 hf5_2 => ?_)
      clear hB
      obtain ⟨hPn, hDn⟩ := hJ _ hPD9.1 hPD9.2 [(oX, .inr (11, [.ref nT, .ref nL, .ref nM, .ref oC, .ref oP, .ref oH, .ref oK, .ref oG, .ref oR, .ref oQ, .ref oW, .int fa])), (oW, .inr (1, [.ref oC, .ref oK, .ref nw, .ref w1, .ref w2, .ref w3, .ref o7, .ref o8, .ref o9, .ref w4, .ref w5, .ref w6, .ref w7, .int ke, .int tl, .int fsh, .int wi, .int ri, .int fm, .int lm])), (oK, .inr (3, [.ref k1, .ref k2, .int lK_5])), (k1, .inl (cI, 1024, .inl fK1_5)), (k2, .inl (cI, 1024, .inl fK2_5))] rfl
      clear hP hD hS hJ hPD9
      have hP := hPn
      have hD := hDn
      have hS := hSn
      clear hPn hDn hSn
      refine lv_if_ne (tgt := 29) hx hb dX11_cost_24 (by decide) (fun c_6 => ?_) (fun c_6 => ?_)
      · have tc_6 : ¬ r_5.toInt = 0 := v_ne c_6
        refine lv_aload_n hx hb dX11_cost_29 rfl (lv_at hl 0 rfl) ?_
        refine va_get (D := (dC, dI)) (ci := 11) (v := .ref oW) (C := RX11) (T := TX11) (N := 12) hx hb hts in_X11 hown hK hP 0 rfl rfl 10 (Nat.le_of_ble_eq_true rfl) (hts (.fieldLink RX11 86 "TextMender" "choiceBook" "LTextMender$Choices;") (List.mem_of_getElem? (i := 2) rfl)) (fun _ h9 => h9) rfl dX11_cost_30 ?_
        refine kV_v (rest := []) (q0 := 0) (ci := 1) hcf (f_X1_forgetFreshness l dC dI cI cS H.size oW oC oK nw w1 w2 w3 o7 o8 o9 w4 w5 w6 w7 ke tl fsh wi ri fm lm (g_ke) (g_fsh) (g_fm) (g_lm)) kc_X1_forgetFreshness gX11_cost_X1_forgetFreshness rfl rfl rfl ⟨Nat.le_of_ble_eq_true rfl, Nat.le_of_ble_eq_true rfl⟩ kX_t hK hP hD hS hA [1] [0, 2, 3, 4] rfl (by decide +kernel) rfl rfl rfl hl rfl (Nat.le_of_ble_eq_true rfl) dX11_cost_33 ⟨Nat.le_of_ble_eq_true rfl, Nat.le_of_ble_eq_true rfl⟩ (fun H locs hB hJ hSn => ?_)
        refine hB _ (fun fsh_7 hPD9 hf7_0 hf7_1 => ?_)
        clear hB
        obtain ⟨hPn, hDn⟩ := hJ _ hPD9.1 hPD9.2 [(oX, .inr (11, [.ref nT, .ref nL, .ref nM, .ref oC, .ref oP, .ref oH, .ref oK, .ref oG, .ref oR, .ref oQ, .ref oW, .int fa])), (oK, .inr (3, [.ref k1, .ref k2, .int lK_5])), (k1, .inl (cI, 1024, .inl fK1_5)), (k2, .inl (cI, 1024, .inl fK2_5)), (oW, .inr (1, [.ref oC, .ref oK, .ref nw, .ref w1, .ref w2, .ref w3, .ref o7, .ref o8, .ref o9, .ref w4, .ref w5, .ref w6, .ref w7, .int ke, .int tl, .int fsh_7, .int wi, .int ri, .int fm, .int lm]))] rfl
        clear hP hD hS hJ hPD9
        have hP := hPn
        have hD := hDn
        have hS := hSn
        clear hPn hDn hSn
        refine lv_iconst (v := 1) hx hb dX11_cost_36 (by decide) ?_
        exact kl_z (v := 1) hQQ hx hb hr hlocks hS dX11_cost_37 (rfl) (fun PZ9 kZ9 => kZ9 lK_5 fK1_5 fK2_5 fsh_7 (⟨hP, hD⟩) (hf5_0) (hf7_0) (by decide) (Or.inl ⟨by unfold isLq; omega, by unfold isLq; omega, (v_inj (by first | omega | (show _ = (1 : Int); omega) | (show _ = (0 : Int); omega)) : r_5 = 1) ▸ hf5_2⟩) (Or.inr ⟨by first | decide | omega, hf7_1⟩))
      · have tc_6 : r_5.toInt = 0 := v_eq c_6
        refine lv_iconst (v := 0) hx hb dX11_cost_27 (by decide) ?_
        exact kl_z (v := 0) hQQ hx hb hr hlocks hS dX11_cost_28 (rfl) (fun PZ9 kZ9 => kZ9 lK_5 fK1_5 fK2_5 fsh (kPD_sub hP hD [0, 2, 3, 4, 1] (by decide +kernel) rfl) (hf5_0) (g_fsh) (by decide) (Or.inl ⟨by unfold isLq; omega, by unfold isLq; omega, (v_inj (by first | omega | (show _ = (1 : Int); omega) | (show _ = (0 : Int); omega)) : r_5 = 0) ▸ hf5_2⟩) (Or.inl ⟨by first | rfl | omega, rfl⟩))

set_option maxHeartbeats 40000000 in
set_option maxRecDepth 100000 in
theorem f_X12_cost (l : Launch) (dC : Nat → ClassId) (dI : Nat → Nat → Nat) (cI cS : ClassId) (sz : Nat) (oM : Nat) (mT : Nat) (mS : Nat) (mX : Nat) (mL : Nat) (mB : Nat) (mD : Nat) (m1 : Nat) (m2 : Nat) (mR : Nat) (x1 : Nat) (x2 : Nat) (x3 : Nat) (mH : Nat) (mY : Nat) (mE : Nat) (mW : Nat) (mO : Nat) (y1 : Nat) (y2 : Nat) (y3 : Nat) (y4 : Nat) (mZ : Nat) (zt : Int32) (zp : Int32) (zf : Int32) (zh : Int32) (zr : Int32) (zc : Int32) (zy : Int32) (za : Int32) (zb : Int32) (zs : Int32) (zq : Int32) (zw : Int32) (ze : Int32) (zn : Int32) (zm : Int32) (zl : Int32) (zk : Int32) (zd : Int32) (ec1 : Nat → Int32) (ec2 : Nat → Int32) (ec3 : Nat → Int32) (x : Int32) (y : Int32) (v : Int32) (g_zt : 0 ≤ zt.toInt ∧ zt.toInt ≤ 900) (g_zp : 0 ≤ zp.toInt ∧ zp.toInt ≤ 20) (g_zf : 0 ≤ zf.toInt ∧ zf.toInt ≤ 19) (g_zh : 0 ≤ zh.toInt ∧ zh.toInt ≤ 6) (g_zr : 0 ≤ zr.toInt ∧ zr.toInt ≤ 258) (g_zc : 0 ≤ zc.toInt ∧ zc.toInt ≤ 300) (g_zy : 0 ≤ zy.toInt ∧ zy.toInt ≤ 65536) (g_za : 0 ≤ za.toInt ∧ za.toInt ≤ 5) (g_zb : 0 ≤ zb.toInt ∧ zb.toInt ≤ 5) (g_zs : 0 ≤ zs.toInt ∧ zs.toInt ≤ 2000000) (g_zq : -1 ≤ zq.toInt ∧ zq.toInt ≤ 2000000) (g_zn : 0 ≤ zn.toInt ∧ zn.toInt ≤ 2600) (g_zm : 0 ≤ zm.toInt ∧ zm.toInt ≤ 2600) (g_zk : 0 ≤ zk.toInt ∧ zk.toInt ≤ 300) (hzs : zs.toInt ≤ 1000000) : kMi l yX12_cost wsX12_cost ({ frames := 1, cells := 0, slots := 0, locals := 20 } : Room) [.ref oM, .int x, .int y, .int v] sz (dC, dI) vwCl [(cI, .int), (cS, .short)] [(oM, .inr (12, [.ref mT, .int zt, .ref mS, .ref mX, .int zp, .int zf, .ref mL, .ref mB, .ref mD, .ref m1, .ref m2, .int zh, .ref mR, .int zr, .ref x1, .ref x2, .ref x3, .int zc, .ref mH, .int zy, .int za, .int zb, .int zs, .int zq, .int zw, .int ze, .ref mY, .int zn, .ref mE, .int zm, .int zl, .ref mW, .int zk, .ref mO, .int zd, .ref y1, .ref y2, .ref y3, .ref y4, .ref mZ])), (x1, .inl (cI, 300, .inl ec1)), (x2, .inl (cI, 300, .inl ec2)), (x3, .inl (cI, 300, .inl ec3))] (fun _ => True) 0 0 (fun (A : Nat → Prop) (r : Int32) (hh9 : Heap) => ∀ PZ9 : Prop, (∀ (ze' : Int32) (zc' : Int32) (ec1' : Nat → Int32) (ec2' : Nat → Int32) (ec3' : Nat → Int32) (zs' : Int32), kPD (dC, dI) vwCl A [(oM, .inr (12, [.ref mT, .int zt, .ref mS, .ref mX, .int zp, .int zf, .ref mL, .ref mB, .ref mD, .ref m1, .ref m2, .int zh, .ref mR, .int zr, .ref x1, .ref x2, .ref x3, .int zc', .ref mH, .int zy, .int za, .int zb, .int zs', .int zq, .int zw, .int ze', .ref mY, .int zn, .ref mE, .int zm, .int zl, .ref mW, .int zk, .ref mO, .int zd, .ref y1, .ref y2, .ref y3, .ref y4, .ref mZ])), (x1, .inl (cI, 300, .inl ec1')), (x2, .inl (cI, 300, .inl ec2')), (x3, .inl (cI, 300, .inl ec3'))] hh9 → (0 ≤ zc'.toInt ∧ zc'.toInt ≤ 300) → (0 ≤ zs'.toInt ∧ zs'.toInt ≤ 2000000) → (0 ≤ r.toInt ∧ r.toInt ≤ 1) → (zs'.toInt ≤ zs.toInt + 1 ∧ zs.toInt ≤ zs'.toInt) → (F_ck zc zc' r x y v ec1 ec1' ec2 ec2' ec3 ec3') → (F_zs (0) r zs zs') → PZ9) → PZ9) := by
  refine kMi_of (cc := cX12_cost) (maxL := 5) (ret := (some .boolean)) (lv := [(0, .ref oM), (1, .int x), (2, .int y), (3, .int v)]) (by decide +kernel) rfl rfl (Nat.le_of_ble_eq_true rfl) ?_
  intro p e s m below meth c A QQ ls hx hb hr hts hml hown hlocks hA hQQ hK hX hP hD hS hl
  have hown : s.vm.findClass RX12 = some m.cls := hown
  have hcf := k_cf hx hb hml hown hts
  have in_X12 : ∀ w ∈ wsX120, w ∈ wsX12_cost := fun _ h => List.mem_cons_of_mem _ (List.mem_append_left _ (List.mem_append_right _ (h)))
  replace g_zt := hid g_zt
  replace g_zp := hid g_zp
  replace g_zf := hid g_zf
  replace g_zh := hid g_zh
  replace g_zr := hid g_zr
  replace g_zy := hid g_zy
  replace g_za := hid g_za
  replace g_zb := hid g_zb
  replace g_zq := hid g_zq
  replace g_zn := hid g_zn
  replace g_zm := hid g_zm
  replace g_zk := hid g_zk
  refine lv_aload_n hx hb dX12_cost_0 rfl (lv_at hl 0 rfl) ?_
  refine lv_iconst (v := 0) hx hb dX12_cost_1 (by decide) ?_
  refine va_put (D := (dC, dI)) (ci := 12) (v := .int 0) (ty := .int) (C := RX12) (T := TX12) (N := 40) hx hb hts in_X12 tyX12 tyX12_ok nmX12 hown hK hP hD hS 0 rfl rfl 25 (Nat.le_of_ble_eq_true rfl) (hts (.fieldLink RX12 85 "TextMenderModel" "thrown" "I") (List.mem_of_getElem? (i := 1) rfl)) (fun _ h9 => h9) rfl (tyX12_ok 25 (Nat.le_of_ble_eq_true rfl)) rfl rfl (Nat.le_of_ble_eq_true rfl) dX12_cost_2 (kW (wn := [(oM, .inr (12, [.ref mT, .int zt, .ref mS, .ref mX, .int zp, .int zf, .ref mL, .ref mB, .ref mD, .ref m1, .ref m2, .int zh, .ref mR, .int zr, .ref x1, .ref x2, .ref x3, .int zc, .ref mH, .int zy, .int za, .int zb, .int zs, .int zq, .int zw, .int 0, .ref mY, .int zn, .ref mE, .int zm, .int zl, .ref mW, .int zk, .ref mO, .int zd, .ref y1, .ref y2, .ref y3, .ref y4, .ref mZ])), (x1, .inl (cI, 300, .inl ec1)), (x2, .inl (cI, 300, .inl ec2)), (x3, .inl (cI, 300, .inl ec3))]) rfl (fun H locs hPn hDn hSn => ?_))
  clear hP hD hS
  have hP := hPn
  have hD := hDn
  have hS := hSn
  clear hPn hDn hSn
  refine lv_iload_n hx hb dX12_cost_5 rfl (lv_at hl 1 rfl) ?_
  refine kS_i (rest := []) hcf (m_X12_isLetter l dC dI cI cS H.size x ) kc_X12_isLetter gX12_cost_X12_isLetter rfl rfl ⟨Nat.le_of_ble_eq_true rfl, Nat.le_of_ble_eq_true rfl⟩ kX_t hK hP hD hS hA [] [0, 1, 2, 3] rfl (by decide +kernel) rfl hl rfl (Nat.le_of_ble_eq_true rfl) dX12_cost_6 ⟨Nat.le_of_ble_eq_true rfl, Nat.le_of_ble_eq_true rfl⟩ (fun r_1 H locs hB hJ hSn => ?_)
  refine hB _ (fun hPD9 hf1_0 hf1_1 => ?_)
  clear hB
  obtain ⟨hPn, hDn⟩ := hJ _ hPD9.1 hPD9.2 [(oM, .inr (12, [.ref mT, .int zt, .ref mS, .ref mX, .int zp, .int zf, .ref mL, .ref mB, .ref mD, .ref m1, .ref m2, .int zh, .ref mR, .int zr, .ref x1, .ref x2, .ref x3, .int zc, .ref mH, .int zy, .int za, .int zb, .int zs, .int zq, .int zw, .int 0, .ref mY, .int zn, .ref mE, .int zm, .int zl, .ref mW, .int zk, .ref mO, .int zd, .ref y1, .ref y2, .ref y3, .ref y4, .ref mZ])), (x1, .inl (cI, 300, .inl ec1)), (x2, .inl (cI, 300, .inl ec2)), (x3, .inl (cI, 300, .inl ec3))] rfl
  clear hP hD hS hJ hPD9
  have hP := hPn
  have hD := hDn
  have hS := hSn
  clear hPn hDn hSn
  refine lv_if_eq (tgt := 30) hx hb dX12_cost_9 (by decide) (fun c_2 => ?_) (fun c_2 => ?_)
  · have tc_2 : r_1.toInt = 0 := v_eq c_2
    refine lv_iconst (v := 0) hx hb dX12_cost_30 (by decide) ?_
    exact kl_z (v := 0) hQQ hx hb hr hlocks hS dX12_cost_31 (rfl) (fun PZ9 kZ9 => kZ9 0 zc ec1 ec2 ec3 zs (⟨hP, hD⟩) (g_zc) (g_zs) (by decide) (by show zs.toInt ≤ zs.toInt + 1 ∧ zs.toInt ≤ zs.toInt; omega) (by first | exact Or.inr ⟨rfl, by unfold isLq; omega, rfl, rfl, rfl, rfl⟩ | exact Or.inl ⟨by unfold isLq; omega, by unfold isLq; omega, Or.inr ⟨rfl, Or.inl (by unfold okv; omega), rfl, rfl, rfl, rfl⟩⟩) (by first | exact Or.inl ⟨by first | rfl | omega, rfl⟩ | exact Or.inr ⟨by first | decide | omega, by omega⟩))
  · have tc_2 : ¬ r_1.toInt = 0 := v_ne c_2
    refine lv_iload_n hx hb dX12_cost_12 rfl (lv_at hl 2 rfl) ?_
    refine kS_i (rest := []) hcf (m_X12_isLetter l dC dI cI cS H.size y ) kc_X12_isLetter gX12_cost_X12_isLetter rfl rfl ⟨Nat.le_of_ble_eq_true rfl, Nat.le_of_ble_eq_true rfl⟩ kX_t hK hP hD hS hA [] [0, 1, 2, 3] rfl (by decide +kernel) rfl hl rfl (Nat.le_of_ble_eq_true rfl) dX12_cost_13 ⟨Nat.le_of_ble_eq_true rfl, Nat.le_of_ble_eq_true rfl⟩ (fun r_3 H locs hB hJ hSn => ?_)
    refine hB _ (fun hPD9 hf3_0 hf3_1 => ?_)
    clear hB
    obtain ⟨hPn, hDn⟩ := hJ _ hPD9.1 hPD9.2 [(oM, .inr (12, [.ref mT, .int zt, .ref mS, .ref mX, .int zp, .int zf, .ref mL, .ref mB, .ref mD, .ref m1, .ref m2, .int zh, .ref mR, .int zr, .ref x1, .ref x2, .ref x3, .int zc, .ref mH, .int zy, .int za, .int zb, .int zs, .int zq, .int zw, .int 0, .ref mY, .int zn, .ref mE, .int zm, .int zl, .ref mW, .int zk, .ref mO, .int zd, .ref y1, .ref y2, .ref y3, .ref y4, .ref mZ])), (x1, .inl (cI, 300, .inl ec1)), (x2, .inl (cI, 300, .inl ec2)), (x3, .inl (cI, 300, .inl ec3))] rfl
    clear hP hD hS hJ hPD9
    have hP := hPn
    have hD := hDn
    have hS := hSn
    clear hPn hDn hSn
    refine lv_if_eq (tgt := 30) hx hb dX12_cost_16 (by decide) (fun c_4 => ?_) (fun c_4 => ?_)
    · have tc_4 : r_3.toInt = 0 := v_eq c_4
      refine lv_iconst (v := 0) hx hb dX12_cost_30 (by decide) ?_
      exact kl_z (v := 0) hQQ hx hb hr hlocks hS dX12_cost_31 (rfl) (fun PZ9 kZ9 => kZ9 0 zc ec1 ec2 ec3 zs (⟨hP, hD⟩) (g_zc) (g_zs) (by decide) (by show zs.toInt ≤ zs.toInt + 1 ∧ zs.toInt ≤ zs.toInt; omega) (by first | exact Or.inr ⟨rfl, by unfold isLq; omega, rfl, rfl, rfl, rfl⟩ | exact Or.inl ⟨by unfold isLq; omega, by unfold isLq; omega, Or.inr ⟨rfl, Or.inl (by unfold okv; omega), rfl, rfl, rfl, rfl⟩⟩) (by first | exact Or.inl ⟨by first | rfl | omega, rfl⟩ | exact Or.inr ⟨by first | decide | omega, by omega⟩))
    · have tc_4 : ¬ r_3.toInt = 0 := v_ne c_4
      refine lv_iload_n hx hb dX12_cost_19 rfl (lv_at hl 3 rfl) ?_
      refine lv_if_lt (tgt := 30) hx hb dX12_cost_20 (by decide) (fun c_5 => ?_) (fun c_5 => ?_)
      · have tc_5 : v.toInt < 0 := v_lt c_5
        refine lv_iconst (v := 0) hx hb dX12_cost_30 (by decide) ?_
        exact kl_z (v := 0) hQQ hx hb hr hlocks hS dX12_cost_31 (rfl) (fun PZ9 kZ9 => kZ9 0 zc ec1 ec2 ec3 zs (⟨hP, hD⟩) (g_zc) (g_zs) (by decide) (by show zs.toInt ≤ zs.toInt + 1 ∧ zs.toInt ≤ zs.toInt; omega) (by first | exact Or.inr ⟨rfl, by unfold isLq; omega, rfl, rfl, rfl, rfl⟩ | exact Or.inl ⟨by unfold isLq; omega, by unfold isLq; omega, Or.inr ⟨rfl, Or.inl (by unfold okv; omega), rfl, rfl, rfl, rfl⟩⟩) (by first | exact Or.inl ⟨by first | rfl | omega, rfl⟩ | exact Or.inr ⟨by first | decide | omega, by omega⟩))
      · have tc_5 : 0 ≤ v.toInt := v_nlt c_5
        refine lv_iload_n hx hb dX12_cost_23 rfl (lv_at hl 3 rfl) ?_
        refine lv_sipush (v := 200) hx hb dX12_cost_24 (by decide) ?_
        refine lv_icmp_le (tgt := 32) hx hb dX12_cost_27 (by decide) (fun c_6 => ?_) (fun c_6 => ?_)
        · have tc_6 : v.toInt ≤ 200 := v_le c_6
          refine lv_iconst (v := 0) hx hb dX12_cost_32 (by decide) ?_
          refine lv_istore (lv' := [(4, .int 0), (0, .ref oM), (1, .int x), (2, .int y), (3, .int v)]) hx hb dX12_cost_33 hl (by decide) rfl (fun ls hl => ?_)
          have LOOP_35 : ∀ (k_35 : Nat) (k : Int32) (H : Heap) (locs : List Loc) (ls : Array Slot), MSd (300 - k.toInt : Int) k_35 → (0 ≤ k.toInt ∧ k.toInt ≤ 300) → (k.toInt ≤ zc.toInt) → (noP k.toInt x y ec1 ec2) → va_P (dC, dI) vwCl [(oM, .inr (12, [.ref mT, .int zt, .ref mS, .ref mX, .int zp, .int zf, .ref mL, .ref mB, .ref mD, .ref m1, .ref m2, .int zh, .ref mR, .int zr, .ref x1, .ref x2, .ref x3, .int zc, .ref mH, .int zy, .int za, .int zb, .int zs, .int zq, .int zw, .int 0, .ref mY, .int zn, .ref mE, .int zm, .int zl, .ref mW, .int zk, .ref mO, .int zd, .ref y1, .ref y2, .ref y3, .ref y4, .ref mZ])), (x1, .inl (cI, 300, .inl ec1)), (x2, .inl (cI, 300, .inl ec2)), (x3, .inl (cI, 300, .inl ec3))] H → va_D A [(oM, .inr (12, [.ref mT, .int zt, .ref mS, .ref mX, .int zp, .int zf, .ref mL, .ref mB, .ref mD, .ref m1, .ref m2, .int zh, .ref mR, .int zr, .ref x1, .ref x2, .ref x3, .int zc, .ref mH, .int zy, .int za, .int zb, .int zs, .int zq, .int zw, .int 0, .ref mY, .int zn, .ref mE, .int zm, .int zl, .ref mW, .int zk, .ref mO, .int zd, .ref y1, .ref y2, .ref y3, .ref y4, .ref mZ])), (x1, .inl (cI, 300, .inl ec1)), (x2, .inl (cI, 300, .inl ec2)), (x3, .inl (cI, 300, .inl ec3))] → va_S A s.heap H locs → lv_has ls 5 [(4, .int k), (0, .ref oM), (1, .int x), (2, .int y), (3, .int v)] → W p l e (headSpec wsX12_cost ({ frames := 1, cells := 0, slots := 0, locals := 20 } : Room)).room s m ([.ref oM, .int x, .int y, .int v] : List Value).toArray below meth c H locs 0 0 (MQ below QQ ([.ref oM, .int x, .int y, .int v] : List Value).toArray s 0 0 A) (F0 m 35 ls []) := by
            clear hP hD hS hl
            intro k_35
            induction k_35 with
            | zero =>
              intro k H locs ls hm_35 g_k hkc hno hP hD hS hl
              exact ms_0 hm_35
            | succ k_35 ih_35 =>
              intro k H locs ls hm_35 g_k hkc hno hP hD hS hl
              refine lv_iload hx hb dX12_cost_35 (lv_at hl 0 rfl) ?_
              refine lv_aload_n hx hb dX12_cost_37 rfl (lv_at hl 1 rfl) ?_
              refine va_get (D := (dC, dI)) (ci := 12) (v := .int zc) (C := RX12) (T := TX12) (N := 40) hx hb hts in_X12 hown hK hP 0 rfl rfl 17 (Nat.le_of_ble_eq_true rfl) (hts (.fieldLink RX12 168 "TextMenderModel" "costs" "I") (List.mem_of_getElem? (i := 2) rfl)) (fun _ h9 => h9) rfl dX12_cost_38 ?_
              refine lv_icmp_ge (tgt := 72) hx hb dX12_cost_41 (by decide) (fun c_7 => ?_) (fun c_7 => ?_)
              · have tc_7 : zc.toInt ≤ k.toInt := v_le c_7
                refine lv_iload hx hb dX12_cost_72 (lv_at hl 0 rfl) ?_
                refine lv_sipush (v := 300) hx hb dX12_cost_74 (by decide) ?_
                refine lv_icmp_ne (tgt := 82) hx hb dX12_cost_77 (by decide) (fun c_8 => ?_) (fun c_8 => ?_)
                · have tc_8 : ¬ k.toInt = 300 := v_ne c_8
                  refine lv_aload_n hx hb dX12_cost_82 rfl (lv_at hl 1 rfl) ?_
                  refine va_get (D := (dC, dI)) (ci := 12) (v := .ref x1) (C := RX12) (T := TX12) (N := 40) hx hb hts in_X12 hown hK hP 0 rfl rfl 14 (Nat.le_of_ble_eq_true rfl) (hts (.fieldLink RX12 39 "TextMenderModel" "costX" "[I") (List.mem_of_getElem? (i := 3) rfl)) (fun _ h9 => h9) rfl dX12_cost_83 ?_
                  refine lv_iload hx hb dX12_cost_86 (lv_at hl 0 rfl) ?_
                  refine lv_iload_n hx hb dX12_cost_88 rfl (lv_at hl 2 rfl) ?_
                  obtain ⟨f_9, ef_9⟩ : ∃ g : Nat → Int32, g = upd ec1 (k : Int32).toNatClampNeg x := ⟨_, rfl⟩
                  refine va_iast hx hb hK hP hD hS 1 0 rfl rfl (v_in (by omega)) dX12_cost_89 (kWf (g := f_9) (F := fun f_9 => [(oM, .inr (12, [.ref mT, .int zt, .ref mS, .ref mX, .int zp, .int zf, .ref mL, .ref mB, .ref mD, .ref m1, .ref m2, .int zh, .ref mR, .int zr, .ref x1, .ref x2, .ref x3, .int zc, .ref mH, .int zy, .int za, .int zb, .int zs, .int zq, .int zw, .int 0, .ref mY, .int zn, .ref mE, .int zm, .int zl, .ref mW, .int zk, .ref mO, .int zd, .ref y1, .ref y2, .ref y3, .ref y4, .ref mZ])), (x1, .inl (cI, 300, .inl f_9)), (x2, .inl (cI, 300, .inl ec2)), (x3, .inl (cI, 300, .inl ec3))]) ef_9 rfl (fun H locs hPn hDn hSn => ?_))
                  clear hP hD hS
                  have hP := hPn
                  have hD := hDn
                  have hS := hSn
                  clear hPn hDn hSn
                  refine lv_aload_n hx hb dX12_cost_90 rfl (lv_at hl 1 rfl) ?_
                  refine va_get (D := (dC, dI)) (ci := 12) (v := .ref x2) (C := RX12) (T := TX12) (N := 40) hx hb hts in_X12 hown hK hP 0 rfl rfl 15 (Nat.le_of_ble_eq_true rfl) (hts (.fieldLink RX12 42 "TextMenderModel" "costY" "[I") (List.mem_of_getElem? (i := 4) rfl)) (fun _ h9 => h9) rfl dX12_cost_91 ?_
                  refine lv_iload hx hb dX12_cost_94 (lv_at hl 0 rfl) ?_
                  refine lv_iload_n hx hb dX12_cost_96 rfl (lv_at hl 3 rfl) ?_
                  obtain ⟨f_10, ef_10⟩ : ∃ g : Nat → Int32, g = upd ec2 (k : Int32).toNatClampNeg y := ⟨_, rfl⟩
                  refine va_iast hx hb hK hP hD hS 2 0 rfl rfl (v_in (by omega)) dX12_cost_97 (kWf (g := f_10) (F := fun f_10 => [(oM, .inr (12, [.ref mT, .int zt, .ref mS, .ref mX, .int zp, .int zf, .ref mL, .ref mB, .ref mD, .ref m1, .ref m2, .int zh, .ref mR, .int zr, .ref x1, .ref x2, .ref x3, .int zc, .ref mH, .int zy, .int za, .int zb, .int zs, .int zq, .int zw, .int 0, .ref mY, .int zn, .ref mE, .int zm, .int zl, .ref mW, .int zk, .ref mO, .int zd, .ref y1, .ref y2, .ref y3, .ref y4, .ref mZ])), (x1, .inl (cI, 300, .inl f_9)), (x2, .inl (cI, 300, .inl f_10)), (x3, .inl (cI, 300, .inl ec3))]) ef_10 rfl (fun H locs hPn hDn hSn => ?_))
                  clear hP hD hS
                  have hP := hPn
                  have hD := hDn
                  have hS := hSn
                  clear hPn hDn hSn
                  refine lv_aload_n hx hb dX12_cost_98 rfl (lv_at hl 1 rfl) ?_
                  refine va_get (D := (dC, dI)) (ci := 12) (v := .ref x3) (C := RX12) (T := TX12) (N := 40) hx hb hts in_X12 hown hK hP 0 rfl rfl 16 (Nat.le_of_ble_eq_true rfl) (hts (.fieldLink RX12 45 "TextMenderModel" "costV" "[I") (List.mem_of_getElem? (i := 5) rfl)) (fun _ h9 => h9) rfl dX12_cost_99 ?_
                  refine lv_iload hx hb dX12_cost_102 (lv_at hl 0 rfl) ?_
                  refine lv_iload_n hx hb dX12_cost_104 rfl (lv_at hl 4 rfl) ?_
                  obtain ⟨f_11, ef_11⟩ : ∃ g : Nat → Int32, g = upd ec3 (k : Int32).toNatClampNeg v := ⟨_, rfl⟩
                  refine va_iast hx hb hK hP hD hS 3 0 rfl rfl (v_in (by omega)) dX12_cost_105 (kWf (g := f_11) (F := fun f_11 => [(oM, .inr (12, [.ref mT, .int zt, .ref mS, .ref mX, .int zp, .int zf, .ref mL, .ref mB, .ref mD, .ref m1, .ref m2, .int zh, .ref mR, .int zr, .ref x1, .ref x2, .ref x3, .int zc, .ref mH, .int zy, .int za, .int zb, .int zs, .int zq, .int zw, .int 0, .ref mY, .int zn, .ref mE, .int zm, .int zl, .ref mW, .int zk, .ref mO, .int zd, .ref y1, .ref y2, .ref y3, .ref y4, .ref mZ])), (x1, .inl (cI, 300, .inl f_9)), (x2, .inl (cI, 300, .inl f_10)), (x3, .inl (cI, 300, .inl f_11))]) ef_11 rfl (fun H locs hPn hDn hSn => ?_))
                  clear hP hD hS
                  have hP := hPn
                  have hD := hDn
                  have hS := hSn
                  clear hPn hDn hSn
                  refine lv_iload hx hb dX12_cost_106 (lv_at hl 0 rfl) ?_
                  refine lv_aload_n hx hb dX12_cost_108 rfl (lv_at hl 1 rfl) ?_
                  refine va_get (D := (dC, dI)) (ci := 12) (v := .int zc) (C := RX12) (T := TX12) (N := 40) hx hb hts in_X12 hown hK hP 0 rfl rfl 17 (Nat.le_of_ble_eq_true rfl) (hts (.fieldLink RX12 168 "TextMenderModel" "costs" "I") (List.mem_of_getElem? (i := 2) rfl)) (fun _ h9 => h9) rfl dX12_cost_109 ?_
                  refine lv_icmp_ne (tgt := 125) hx hb dX12_cost_112 (by decide) (fun c_12 => ?_) (fun c_12 => ?_)
                  · have tc_12 : ¬ k.toInt = zc.toInt := v_ne c_12
                    refine lv_aload_n hx hb dX12_cost_125 rfl (lv_at hl 1 rfl) ?_
                    refine lv_dup hx hb dX12_cost_126 rfl ?_
                    refine va_get (D := (dC, dI)) (ci := 12) (v := .int zs) (C := RX12) (T := TX12) (N := 40) hx hb hts in_X12 hown hK hP 0 rfl rfl 22 (Nat.le_of_ble_eq_true rfl) (hts (.fieldLink RX12 148 "TextMenderModel" "state" "I") (List.mem_of_getElem? (i := 6) rfl)) (fun _ h9 => h9) rfl dX12_cost_127 ?_
                    refine lv_iconst (v := 1) hx hb dX12_cost_130 (by decide) ?_
                    refine lv_iadd hx hb dX12_cost_131 ?_
                    refine lv_topi (fun x_13 ex_13 => ?_)
                    have tx_13 : x_13.toInt = zs.toInt + 1 := v_addR (l2 := 1) (h2 := 1) ex_13 g_zs (by decide) (by decide) (by decide)
                    refine va_put (D := (dC, dI)) (ci := 12) (v := .int x_13) (ty := .int) (C := RX12) (T := TX12) (N := 40) hx hb hts in_X12 tyX12 tyX12_ok nmX12 hown hK hP hD hS 0 rfl rfl 22 (Nat.le_of_ble_eq_true rfl) (hts (.fieldLink RX12 148 "TextMenderModel" "state" "I") (List.mem_of_getElem? (i := 6) rfl)) (fun _ h9 => h9) rfl (tyX12_ok 22 (Nat.le_of_ble_eq_true rfl)) rfl rfl (Nat.le_of_ble_eq_true rfl) dX12_cost_132 (kW (wn := [(oM, .inr (12, [.ref mT, .int zt, .ref mS, .ref mX, .int zp, .int zf, .ref mL, .ref mB, .ref mD, .ref m1, .ref m2, .int zh, .ref mR, .int zr, .ref x1, .ref x2, .ref x3, .int zc, .ref mH, .int zy, .int za, .int zb, .int x_13, .int zq, .int zw, .int 0, .ref mY, .int zn, .ref mE, .int zm, .int zl, .ref mW, .int zk, .ref mO, .int zd, .ref y1, .ref y2, .ref y3, .ref y4, .ref mZ])), (x1, .inl (cI, 300, .inl f_9)), (x2, .inl (cI, 300, .inl f_10)), (x3, .inl (cI, 300, .inl f_11))]) rfl (fun H locs hPn hDn hSn => ?_))
                    clear hP hD hS
                    have hP := hPn
                    have hD := hDn
                    have hS := hSn
                    clear hPn hDn hSn
                    refine lv_iconst (v := 1) hx hb dX12_cost_135 (by decide) ?_
                    exact kl_z (v := 1) hQQ hx hb hr hlocks hS dX12_cost_136 (rfl) (fun PZ9 kZ9 => kZ9 0 zc f_9 f_10 f_11 x_13 (⟨hP, hD⟩) (g_zc) (by omega) (by decide) (by show x_13.toInt ≤ zs.toInt + 1 ∧ zs.toInt ≤ x_13.toInt; omega) (Or.inl ⟨by unfold isLq; omega, by unfold isLq; omega, Or.inl ⟨rfl, by unfold okv; omega, Or.inr ⟨fun j hj => hno j (by omega), by omega, by omega, (v_inj (by omega) : k = zc) ▸ ef_9, (v_inj (by omega) : k = zc) ▸ ef_10, (v_inj (by omega) : k = zc) ▸ ef_11⟩⟩⟩) (by first | exact Or.inl ⟨by first | rfl | omega, rfl⟩ | exact Or.inr ⟨by first | decide | omega, by omega⟩))
                  · have tc_12 : k.toInt = zc.toInt := v_eq c_12
                    refine lv_aload_n hx hb dX12_cost_115 rfl (lv_at hl 1 rfl) ?_
                    refine lv_dup hx hb dX12_cost_116 rfl ?_
                    refine va_get (D := (dC, dI)) (ci := 12) (v := .int zc) (C := RX12) (T := TX12) (N := 40) hx hb hts in_X12 hown hK hP 0 rfl rfl 17 (Nat.le_of_ble_eq_true rfl) (hts (.fieldLink RX12 168 "TextMenderModel" "costs" "I") (List.mem_of_getElem? (i := 2) rfl)) (fun _ h9 => h9) rfl dX12_cost_117 ?_
                    refine lv_iconst (v := 1) hx hb dX12_cost_120 (by decide) ?_
                    refine lv_iadd hx hb dX12_cost_121 ?_
                    refine lv_topi (fun x_14 ex_14 => ?_)
                    have tx_14 : x_14.toInt = zc.toInt + 1 := v_addR (l2 := 1) (h2 := 1) ex_14 g_zc (by decide) (by decide) (by decide)
                    refine va_put (D := (dC, dI)) (ci := 12) (v := .int x_14) (ty := .int) (C := RX12) (T := TX12) (N := 40) hx hb hts in_X12 tyX12 tyX12_ok nmX12 hown hK hP hD hS 0 rfl rfl 17 (Nat.le_of_ble_eq_true rfl) (hts (.fieldLink RX12 168 "TextMenderModel" "costs" "I") (List.mem_of_getElem? (i := 2) rfl)) (fun _ h9 => h9) rfl (tyX12_ok 17 (Nat.le_of_ble_eq_true rfl)) rfl rfl (Nat.le_of_ble_eq_true rfl) dX12_cost_122 (kW (wn := [(oM, .inr (12, [.ref mT, .int zt, .ref mS, .ref mX, .int zp, .int zf, .ref mL, .ref mB, .ref mD, .ref m1, .ref m2, .int zh, .ref mR, .int zr, .ref x1, .ref x2, .ref x3, .int x_14, .ref mH, .int zy, .int za, .int zb, .int zs, .int zq, .int zw, .int 0, .ref mY, .int zn, .ref mE, .int zm, .int zl, .ref mW, .int zk, .ref mO, .int zd, .ref y1, .ref y2, .ref y3, .ref y4, .ref mZ])), (x1, .inl (cI, 300, .inl f_9)), (x2, .inl (cI, 300, .inl f_10)), (x3, .inl (cI, 300, .inl f_11))]) rfl (fun H locs hPn hDn hSn => ?_))
                    clear hP hD hS
                    have hP := hPn
                    have hD := hDn
                    have hS := hSn
                    clear hPn hDn hSn
                    refine lv_aload_n hx hb dX12_cost_125 rfl (lv_at hl 1 rfl) ?_
                    refine lv_dup hx hb dX12_cost_126 rfl ?_
                    refine va_get (D := (dC, dI)) (ci := 12) (v := .int zs) (C := RX12) (T := TX12) (N := 40) hx hb hts in_X12 hown hK hP 0 rfl rfl 22 (Nat.le_of_ble_eq_true rfl) (hts (.fieldLink RX12 148 "TextMenderModel" "state" "I") (List.mem_of_getElem? (i := 6) rfl)) (fun _ h9 => h9) rfl dX12_cost_127 ?_
                    refine lv_iconst (v := 1) hx hb dX12_cost_130 (by decide) ?_
                    refine lv_iadd hx hb dX12_cost_131 ?_
                    refine lv_topi (fun x_15 ex_15 => ?_)
                    have tx_15 : x_15.toInt = zs.toInt + 1 := v_addR (l2 := 1) (h2 := 1) ex_15 g_zs (by decide) (by decide) (by decide)
                    refine va_put (D := (dC, dI)) (ci := 12) (v := .int x_15) (ty := .int) (C := RX12) (T := TX12) (N := 40) hx hb hts in_X12 tyX12 tyX12_ok nmX12 hown hK hP hD hS 0 rfl rfl 22 (Nat.le_of_ble_eq_true rfl) (hts (.fieldLink RX12 148 "TextMenderModel" "state" "I") (List.mem_of_getElem? (i := 6) rfl)) (fun _ h9 => h9) rfl (tyX12_ok 22 (Nat.le_of_ble_eq_true rfl)) rfl rfl (Nat.le_of_ble_eq_true rfl) dX12_cost_132 (kW (wn := [(oM, .inr (12, [.ref mT, .int zt, .ref mS, .ref mX, .int zp, .int zf, .ref mL, .ref mB, .ref mD, .ref m1, .ref m2, .int zh, .ref mR, .int zr, .ref x1, .ref x2, .ref x3, .int x_14, .ref mH, .int zy, .int za, .int zb, .int x_15, .int zq, .int zw, .int 0, .ref mY, .int zn, .ref mE, .int zm, .int zl, .ref mW, .int zk, .ref mO, .int zd, .ref y1, .ref y2, .ref y3, .ref y4, .ref mZ])), (x1, .inl (cI, 300, .inl f_9)), (x2, .inl (cI, 300, .inl f_10)), (x3, .inl (cI, 300, .inl f_11))]) rfl (fun H locs hPn hDn hSn => ?_))
                    clear hP hD hS
                    have hP := hPn
                    have hD := hDn
                    have hS := hSn
                    clear hPn hDn hSn
                    refine lv_iconst (v := 1) hx hb dX12_cost_135 (by decide) ?_
                    exact kl_z (v := 1) hQQ hx hb hr hlocks hS dX12_cost_136 (rfl) (fun PZ9 kZ9 => kZ9 0 x_14 f_9 f_10 f_11 x_15 (⟨hP, hD⟩) (by omega) (by omega) (by decide) (by show x_15.toInt ≤ zs.toInt + 1 ∧ zs.toInt ≤ x_15.toInt; omega) (Or.inl ⟨by unfold isLq; omega, by unfold isLq; omega, Or.inl ⟨rfl, by unfold okv; omega, Or.inr ⟨fun j hj => hno j (by omega), by omega, by omega, (v_inj (by omega) : k = zc) ▸ ef_9, (v_inj (by omega) : k = zc) ▸ ef_10, (v_inj (by omega) : k = zc) ▸ ef_11⟩⟩⟩) (by first | exact Or.inl ⟨by first | rfl | omega, rfl⟩ | exact Or.inr ⟨by first | decide | omega, by omega⟩))
                · have tc_8 : k.toInt = 300 := v_eq c_8
                  refine lv_iconst (v := 0) hx hb dX12_cost_80 (by decide) ?_
                  exact kl_z (v := 0) hQQ hx hb hr hlocks hS dX12_cost_81 (rfl) (fun PZ9 kZ9 => kZ9 0 zc ec1 ec2 ec3 zs (⟨hP, hD⟩) (g_zc) (g_zs) (by decide) (by show zs.toInt ≤ zs.toInt + 1 ∧ zs.toInt ≤ zs.toInt; omega) (Or.inl ⟨by unfold isLq; omega, by unfold isLq; omega, Or.inr ⟨rfl, Or.inr ⟨fun j hj => hno j (by omega), by omega⟩, rfl, rfl, rfl, rfl⟩⟩) (by first | exact Or.inl ⟨by first | rfl | omega, rfl⟩ | exact Or.inr ⟨by first | decide | omega, by omega⟩))
              · have tc_7 : k.toInt < zc.toInt := v_nle c_7
                refine lv_aload_n hx hb dX12_cost_44 rfl (lv_at hl 1 rfl) ?_
                refine va_get (D := (dC, dI)) (ci := 12) (v := .ref x1) (C := RX12) (T := TX12) (N := 40) hx hb hts in_X12 hown hK hP 0 rfl rfl 14 (Nat.le_of_ble_eq_true rfl) (hts (.fieldLink RX12 39 "TextMenderModel" "costX" "[I") (List.mem_of_getElem? (i := 3) rfl)) (fun _ h9 => h9) rfl dX12_cost_45 ?_
                refine lv_iload hx hb dX12_cost_48 (lv_at hl 0 rfl) ?_
                refine va_iald hx hb hK hP 1 0 rfl rfl (v_in (by omega)) dX12_cost_50 ?_
                refine lv_topi (fun x_16 ex_16 => ?_)
                refine lv_iload_n hx hb dX12_cost_51 rfl (lv_at hl 2 rfl) ?_
                refine lv_icmp_ne (tgt := 66) hx hb dX12_cost_52 (by decide) (fun c_17 => ?_) (fun c_17 => ?_)
                · have tc_17 : ¬ x_16.toInt = x.toInt := v_ne c_17
                  have rw17_0 := v_rng x_16
                  obtain ⟨x_18, ex_18⟩ : ∃ y : Int32, y = k + 1 := ⟨_, rfl⟩
                  have tx_18 : x_18.toInt = k.toInt + 1 := v_addR (l2 := 1) (h2 := 1) ex_18 g_k (by decide) (by decide) (by decide)
                  refine lv_iinc (v := x_18) (lv' := [(4, .int x_18), (0, .ref oM), (1, .int x), (2, .int y), (3, .int v)]) hx hb dX12_cost_66 hl (k := 0) rfl (by rw [ex_18]; rfl) (by decide) rfl (fun ls hl => ?_)
                  refine lv_goto (tgt := 35) hx hb dX12_cost_69 (by decide) ?_
                  exact ih_35 x_18 _ _ _ (ms_lt hm_35 (by show ((300 - x_18.toInt : Int)) < 300 - k.toInt; omega) (by show (0 : Int) < 300 - k.toInt; omega)) (by show 0 ≤ x_18.toInt ∧ x_18.toInt ≤ 300; omega) (by show x_18.toInt ≤ zc.toInt; omega) (noP_s1 hno ex_16 c_17 (by omega) (by omega)) hP hD hS (lv_sub hl [0, 1, 2, 3, 4] rfl)
                · have tc_17 : x_16.toInt = x.toInt := v_eq c_17
                  have rw17_0 := v_rng x_16
                  refine lv_aload_n hx hb dX12_cost_55 rfl (lv_at hl 1 rfl) ?_
                  refine va_get (D := (dC, dI)) (ci := 12) (v := .ref x2) (C := RX12) (T := TX12) (N := 40) hx hb hts in_X12 hown hK hP 0 rfl rfl 15 (Nat.le_of_ble_eq_true rfl) (hts (.fieldLink RX12 42 "TextMenderModel" "costY" "[I") (List.mem_of_getElem? (i := 4) rfl)) (fun _ h9 => h9) rfl dX12_cost_56 ?_
                  refine lv_iload hx hb dX12_cost_59 (lv_at hl 0 rfl) ?_
                  refine va_iald hx hb hK hP 2 0 rfl rfl (v_in (by omega)) dX12_cost_61 ?_
                  refine lv_topi (fun x_19 ex_19 => ?_)
                  refine lv_iload_n hx hb dX12_cost_62 rfl (lv_at hl 3 rfl) ?_
                  refine lv_icmp_eq (tgt := 72) hx hb dX12_cost_63 (by decide) (fun c_20 => ?_) (fun c_20 => ?_)
                  · have tc_20 : x_19.toInt = y.toInt := v_eq c_20
                    have rw20_0 := v_rng x_19
                    refine lv_iload hx hb dX12_cost_72 (lv_at hl 0 rfl) ?_
                    refine lv_sipush (v := 300) hx hb dX12_cost_74 (by decide) ?_
                    refine lv_icmp_ne (tgt := 82) hx hb dX12_cost_77 (by decide) (fun c_21 => ?_) (fun c_21 => by exfalso; have tc_21 : k.toInt = 300 := v_eq c_21; omega)
                    have tc_21 : ¬ k.toInt = 300 := v_ne c_21
                    refine lv_aload_n hx hb dX12_cost_82 rfl (lv_at hl 1 rfl) ?_
                    refine va_get (D := (dC, dI)) (ci := 12) (v := .ref x1) (C := RX12) (T := TX12) (N := 40) hx hb hts in_X12 hown hK hP 0 rfl rfl 14 (Nat.le_of_ble_eq_true rfl) (hts (.fieldLink RX12 39 "TextMenderModel" "costX" "[I") (List.mem_of_getElem? (i := 3) rfl)) (fun _ h9 => h9) rfl dX12_cost_83 ?_
                    refine lv_iload hx hb dX12_cost_86 (lv_at hl 0 rfl) ?_
                    refine lv_iload_n hx hb dX12_cost_88 rfl (lv_at hl 2 rfl) ?_
                    obtain ⟨f_22, ef_22⟩ : ∃ g : Nat → Int32, g = upd ec1 (k : Int32).toNatClampNeg x := ⟨_, rfl⟩
                    refine va_iast hx hb hK hP hD hS 1 0 rfl rfl (v_in (by omega)) dX12_cost_89 (kWf (g := f_22) (F := fun f_22 => [(oM, .inr (12, [.ref mT, .int zt, .ref mS, .ref mX, .int zp, .int zf, .ref mL, .ref mB, .ref mD, .ref m1, .ref m2, .int zh, .ref mR, .int zr, .ref x1, .ref x2, .ref x3, .int zc, .ref mH, .int zy, .int za, .int zb, .int zs, .int zq, .int zw, .int 0, .ref mY, .int zn, .ref mE, .int zm, .int zl, .ref mW, .int zk, .ref mO, .int zd, .ref y1, .ref y2, .ref y3, .ref y4, .ref mZ])), (x1, .inl (cI, 300, .inl f_22)), (x2, .inl (cI, 300, .inl ec2)), (x3, .inl (cI, 300, .inl ec3))]) ef_22 rfl (fun H locs hPn hDn hSn => ?_))
                    clear hP hD hS
                    have hP := hPn
                    have hD := hDn
                    have hS := hSn
                    clear hPn hDn hSn
                    refine lv_aload_n hx hb dX12_cost_90 rfl (lv_at hl 1 rfl) ?_
                    refine va_get (D := (dC, dI)) (ci := 12) (v := .ref x2) (C := RX12) (T := TX12) (N := 40) hx hb hts in_X12 hown hK hP 0 rfl rfl 15 (Nat.le_of_ble_eq_true rfl) (hts (.fieldLink RX12 42 "TextMenderModel" "costY" "[I") (List.mem_of_getElem? (i := 4) rfl)) (fun _ h9 => h9) rfl dX12_cost_91 ?_
                    refine lv_iload hx hb dX12_cost_94 (lv_at hl 0 rfl) ?_
                    refine lv_iload_n hx hb dX12_cost_96 rfl (lv_at hl 3 rfl) ?_
                    obtain ⟨f_23, ef_23⟩ : ∃ g : Nat → Int32, g = upd ec2 (k : Int32).toNatClampNeg y := ⟨_, rfl⟩
                    refine va_iast hx hb hK hP hD hS 2 0 rfl rfl (v_in (by omega)) dX12_cost_97 (kWf (g := f_23) (F := fun f_23 => [(oM, .inr (12, [.ref mT, .int zt, .ref mS, .ref mX, .int zp, .int zf, .ref mL, .ref mB, .ref mD, .ref m1, .ref m2, .int zh, .ref mR, .int zr, .ref x1, .ref x2, .ref x3, .int zc, .ref mH, .int zy, .int za, .int zb, .int zs, .int zq, .int zw, .int 0, .ref mY, .int zn, .ref mE, .int zm, .int zl, .ref mW, .int zk, .ref mO, .int zd, .ref y1, .ref y2, .ref y3, .ref y4, .ref mZ])), (x1, .inl (cI, 300, .inl f_22)), (x2, .inl (cI, 300, .inl f_23)), (x3, .inl (cI, 300, .inl ec3))]) ef_23 rfl (fun H locs hPn hDn hSn => ?_))
                    clear hP hD hS
                    have hP := hPn
                    have hD := hDn
                    have hS := hSn
                    clear hPn hDn hSn
                    refine lv_aload_n hx hb dX12_cost_98 rfl (lv_at hl 1 rfl) ?_
                    refine va_get (D := (dC, dI)) (ci := 12) (v := .ref x3) (C := RX12) (T := TX12) (N := 40) hx hb hts in_X12 hown hK hP 0 rfl rfl 16 (Nat.le_of_ble_eq_true rfl) (hts (.fieldLink RX12 45 "TextMenderModel" "costV" "[I") (List.mem_of_getElem? (i := 5) rfl)) (fun _ h9 => h9) rfl dX12_cost_99 ?_
                    refine lv_iload hx hb dX12_cost_102 (lv_at hl 0 rfl) ?_
                    refine lv_iload_n hx hb dX12_cost_104 rfl (lv_at hl 4 rfl) ?_
                    obtain ⟨f_24, ef_24⟩ : ∃ g : Nat → Int32, g = upd ec3 (k : Int32).toNatClampNeg v := ⟨_, rfl⟩
                    refine va_iast hx hb hK hP hD hS 3 0 rfl rfl (v_in (by omega)) dX12_cost_105 (kWf (g := f_24) (F := fun f_24 => [(oM, .inr (12, [.ref mT, .int zt, .ref mS, .ref mX, .int zp, .int zf, .ref mL, .ref mB, .ref mD, .ref m1, .ref m2, .int zh, .ref mR, .int zr, .ref x1, .ref x2, .ref x3, .int zc, .ref mH, .int zy, .int za, .int zb, .int zs, .int zq, .int zw, .int 0, .ref mY, .int zn, .ref mE, .int zm, .int zl, .ref mW, .int zk, .ref mO, .int zd, .ref y1, .ref y2, .ref y3, .ref y4, .ref mZ])), (x1, .inl (cI, 300, .inl f_22)), (x2, .inl (cI, 300, .inl f_23)), (x3, .inl (cI, 300, .inl f_24))]) ef_24 rfl (fun H locs hPn hDn hSn => ?_))
                    clear hP hD hS
                    have hP := hPn
                    have hD := hDn
                    have hS := hSn
                    clear hPn hDn hSn
                    refine lv_iload hx hb dX12_cost_106 (lv_at hl 0 rfl) ?_
                    refine lv_aload_n hx hb dX12_cost_108 rfl (lv_at hl 1 rfl) ?_
                    refine va_get (D := (dC, dI)) (ci := 12) (v := .int zc) (C := RX12) (T := TX12) (N := 40) hx hb hts in_X12 hown hK hP 0 rfl rfl 17 (Nat.le_of_ble_eq_true rfl) (hts (.fieldLink RX12 168 "TextMenderModel" "costs" "I") (List.mem_of_getElem? (i := 2) rfl)) (fun _ h9 => h9) rfl dX12_cost_109 ?_
                    refine lv_icmp_ne (tgt := 125) hx hb dX12_cost_112 (by decide) (fun c_25 => ?_) (fun c_25 => ?_)
                    · have tc_25 : ¬ k.toInt = zc.toInt := v_ne c_25
                      refine lv_aload_n hx hb dX12_cost_125 rfl (lv_at hl 1 rfl) ?_
                      refine lv_dup hx hb dX12_cost_126 rfl ?_
                      refine va_get (D := (dC, dI)) (ci := 12) (v := .int zs) (C := RX12) (T := TX12) (N := 40) hx hb hts in_X12 hown hK hP 0 rfl rfl 22 (Nat.le_of_ble_eq_true rfl) (hts (.fieldLink RX12 148 "TextMenderModel" "state" "I") (List.mem_of_getElem? (i := 6) rfl)) (fun _ h9 => h9) rfl dX12_cost_127 ?_
                      refine lv_iconst (v := 1) hx hb dX12_cost_130 (by decide) ?_
                      refine lv_iadd hx hb dX12_cost_131 ?_
                      refine lv_topi (fun x_26 ex_26 => ?_)
                      have tx_26 : x_26.toInt = zs.toInt + 1 := v_addR (l2 := 1) (h2 := 1) ex_26 g_zs (by decide) (by decide) (by decide)
                      refine va_put (D := (dC, dI)) (ci := 12) (v := .int x_26) (ty := .int) (C := RX12) (T := TX12) (N := 40) hx hb hts in_X12 tyX12 tyX12_ok nmX12 hown hK hP hD hS 0 rfl rfl 22 (Nat.le_of_ble_eq_true rfl) (hts (.fieldLink RX12 148 "TextMenderModel" "state" "I") (List.mem_of_getElem? (i := 6) rfl)) (fun _ h9 => h9) rfl (tyX12_ok 22 (Nat.le_of_ble_eq_true rfl)) rfl rfl (Nat.le_of_ble_eq_true rfl) dX12_cost_132 (kW (wn := [(oM, .inr (12, [.ref mT, .int zt, .ref mS, .ref mX, .int zp, .int zf, .ref mL, .ref mB, .ref mD, .ref m1, .ref m2, .int zh, .ref mR, .int zr, .ref x1, .ref x2, .ref x3, .int zc, .ref mH, .int zy, .int za, .int zb, .int x_26, .int zq, .int zw, .int 0, .ref mY, .int zn, .ref mE, .int zm, .int zl, .ref mW, .int zk, .ref mO, .int zd, .ref y1, .ref y2, .ref y3, .ref y4, .ref mZ])), (x1, .inl (cI, 300, .inl f_22)), (x2, .inl (cI, 300, .inl f_23)), (x3, .inl (cI, 300, .inl f_24))]) rfl (fun H locs hPn hDn hSn => ?_))
                      clear hP hD hS
                      have hP := hPn
                      have hD := hDn
                      have hS := hSn
                      clear hPn hDn hSn
                      refine lv_iconst (v := 1) hx hb dX12_cost_135 (by decide) ?_
                      exact kl_z (v := 1) hQQ hx hb hr hlocks hS dX12_cost_136 (rfl) (fun PZ9 kZ9 => kZ9 0 zc f_22 f_23 f_24 x_26 (⟨hP, hD⟩) (g_zc) (by omega) (by decide) (by show x_26.toInt ≤ zs.toInt + 1 ∧ zs.toInt ≤ x_26.toInt; omega) (Or.inl ⟨by unfold isLq; omega, by unfold isLq; omega, Or.inl ⟨rfl, by unfold okv; omega, Or.inl ⟨isP_at ex_16 ex_19 c_17 c_20 (by omega) (by omega), by omega, k.toNatClampNeg, by rw [← ex_16]; exact c_17, by rw [← ex_19]; exact c_20, ef_22, ef_23, ef_24, by have c9 := v_clamp (x := k) (by omega); omega, fun j hj => hno j (by have c9 := v_clamp (x := k) (by omega); omega)⟩⟩⟩) (by first | exact Or.inl ⟨by first | rfl | omega, rfl⟩ | exact Or.inr ⟨by first | decide | omega, by omega⟩))
                    · have tc_25 : k.toInt = zc.toInt := v_eq c_25
                      refine lv_aload_n hx hb dX12_cost_115 rfl (lv_at hl 1 rfl) ?_
                      refine lv_dup hx hb dX12_cost_116 rfl ?_
                      refine va_get (D := (dC, dI)) (ci := 12) (v := .int zc) (C := RX12) (T := TX12) (N := 40) hx hb hts in_X12 hown hK hP 0 rfl rfl 17 (Nat.le_of_ble_eq_true rfl) (hts (.fieldLink RX12 168 "TextMenderModel" "costs" "I") (List.mem_of_getElem? (i := 2) rfl)) (fun _ h9 => h9) rfl dX12_cost_117 ?_
                      refine lv_iconst (v := 1) hx hb dX12_cost_120 (by decide) ?_
                      refine lv_iadd hx hb dX12_cost_121 ?_
                      refine lv_topi (fun x_27 ex_27 => ?_)
                      have tx_27 : x_27.toInt = zc.toInt + 1 := v_addR (l2 := 1) (h2 := 1) ex_27 g_zc (by decide) (by decide) (by decide)
                      refine va_put (D := (dC, dI)) (ci := 12) (v := .int x_27) (ty := .int) (C := RX12) (T := TX12) (N := 40) hx hb hts in_X12 tyX12 tyX12_ok nmX12 hown hK hP hD hS 0 rfl rfl 17 (Nat.le_of_ble_eq_true rfl) (hts (.fieldLink RX12 168 "TextMenderModel" "costs" "I") (List.mem_of_getElem? (i := 2) rfl)) (fun _ h9 => h9) rfl (tyX12_ok 17 (Nat.le_of_ble_eq_true rfl)) rfl rfl (Nat.le_of_ble_eq_true rfl) dX12_cost_122 (kW (wn := [(oM, .inr (12, [.ref mT, .int zt, .ref mS, .ref mX, .int zp, .int zf, .ref mL, .ref mB, .ref mD, .ref m1, .ref m2, .int zh, .ref mR, .int zr, .ref x1, .ref x2, .ref x3, .int x_27, .ref mH, .int zy, .int za, .int zb, .int zs, .int zq, .int zw, .int 0, .ref mY, .int zn, .ref mE, .int zm, .int zl, .ref mW, .int zk, .ref mO, .int zd, .ref y1, .ref y2, .ref y3, .ref y4, .ref mZ])), (x1, .inl (cI, 300, .inl f_22)), (x2, .inl (cI, 300, .inl f_23)), (x3, .inl (cI, 300, .inl f_24))]) rfl (fun H locs hPn hDn hSn => ?_))
                      clear hP hD hS
                      have hP := hPn
                      have hD := hDn
                      have hS := hSn
                      clear hPn hDn hSn
                      refine lv_aload_n hx hb dX12_cost_125 rfl (lv_at hl 1 rfl) ?_
                      refine lv_dup hx hb dX12_cost_126 rfl ?_
                      refine va_get (D := (dC, dI)) (ci := 12) (v := .int zs) (C := RX12) (T := TX12) (N := 40) hx hb hts in_X12 hown hK hP 0 rfl rfl 22 (Nat.le_of_ble_eq_true rfl) (hts (.fieldLink RX12 148 "TextMenderModel" "state" "I") (List.mem_of_getElem? (i := 6) rfl)) (fun _ h9 => h9) rfl dX12_cost_127 ?_
                      refine lv_iconst (v := 1) hx hb dX12_cost_130 (by decide) ?_
                      refine lv_iadd hx hb dX12_cost_131 ?_
                      refine lv_topi (fun x_28 ex_28 => ?_)
                      have tx_28 : x_28.toInt = zs.toInt + 1 := v_addR (l2 := 1) (h2 := 1) ex_28 g_zs (by decide) (by decide) (by decide)
                      refine va_put (D := (dC, dI)) (ci := 12) (v := .int x_28) (ty := .int) (C := RX12) (T := TX12) (N := 40) hx hb hts in_X12 tyX12 tyX12_ok nmX12 hown hK hP hD hS 0 rfl rfl 22 (Nat.le_of_ble_eq_true rfl) (hts (.fieldLink RX12 148 "TextMenderModel" "state" "I") (List.mem_of_getElem? (i := 6) rfl)) (fun _ h9 => h9) rfl (tyX12_ok 22 (Nat.le_of_ble_eq_true rfl)) rfl rfl (Nat.le_of_ble_eq_true rfl) dX12_cost_132 (kW (wn := [(oM, .inr (12, [.ref mT, .int zt, .ref mS, .ref mX, .int zp, .int zf, .ref mL, .ref mB, .ref mD, .ref m1, .ref m2, .int zh, .ref mR, .int zr, .ref x1, .ref x2, .ref x3, .int x_27, .ref mH, .int zy, .int za, .int zb, .int x_28, .int zq, .int zw, .int 0, .ref mY, .int zn, .ref mE, .int zm, .int zl, .ref mW, .int zk, .ref mO, .int zd, .ref y1, .ref y2, .ref y3, .ref y4, .ref mZ])), (x1, .inl (cI, 300, .inl f_22)), (x2, .inl (cI, 300, .inl f_23)), (x3, .inl (cI, 300, .inl f_24))]) rfl (fun H locs hPn hDn hSn => ?_))
                      clear hP hD hS
                      have hP := hPn
                      have hD := hDn
                      have hS := hSn
                      clear hPn hDn hSn
                      refine lv_iconst (v := 1) hx hb dX12_cost_135 (by decide) ?_
                      exact kl_z (v := 1) hQQ hx hb hr hlocks hS dX12_cost_136 (rfl) (fun PZ9 kZ9 => kZ9 0 x_27 f_22 f_23 f_24 x_28 (⟨hP, hD⟩) (by omega) (by omega) (by decide) (by show x_28.toInt ≤ zs.toInt + 1 ∧ zs.toInt ≤ x_28.toInt; omega) (Or.inl ⟨by unfold isLq; omega, by unfold isLq; omega, Or.inl ⟨rfl, by unfold okv; omega, Or.inl ⟨isP_at ex_16 ex_19 c_17 c_20 (by omega) (by omega), by omega, k.toNatClampNeg, by rw [← ex_16]; exact c_17, by rw [← ex_19]; exact c_20, ef_22, ef_23, ef_24, by have c9 := v_clamp (x := k) (by omega); omega, fun j hj => hno j (by have c9 := v_clamp (x := k) (by omega); omega)⟩⟩⟩) (by first | exact Or.inl ⟨by first | rfl | omega, rfl⟩ | exact Or.inr ⟨by first | decide | omega, by omega⟩))
                  · have tc_20 : ¬ x_19.toInt = y.toInt := v_ne c_20
                    have rw20_0 := v_rng x_19
                    obtain ⟨x_29, ex_29⟩ : ∃ y : Int32, y = k + 1 := ⟨_, rfl⟩
                    have tx_29 : x_29.toInt = k.toInt + 1 := v_addR (l2 := 1) (h2 := 1) ex_29 g_k (by decide) (by decide) (by decide)
                    refine lv_iinc (v := x_29) (lv' := [(4, .int x_29), (0, .ref oM), (1, .int x), (2, .int y), (3, .int v)]) hx hb dX12_cost_66 hl (k := 0) rfl (by rw [ex_29]; rfl) (by decide) rfl (fun ls hl => ?_)
                    refine lv_goto (tgt := 35) hx hb dX12_cost_69 (by decide) ?_
                    exact ih_35 x_29 _ _ _ (ms_lt hm_35 (by show ((300 - x_29.toInt : Int)) < 300 - k.toInt; omega) (by show (0 : Int) < 300 - k.toInt; omega)) (by show 0 ≤ x_29.toInt ∧ x_29.toInt ≤ 300; omega) (by show x_29.toInt ≤ zc.toInt; omega) (noP_s2 hno ex_19 c_20 (by omega) (by omega)) hP hD hS (lv_sub hl [0, 1, 2, 3, 4] rfl)
          exact LOOP_35 _ 0 _ _ _ (ms_s _) (by decide) (by show 0 ≤ zc.toInt; omega) (noP_0 (by decide)) hP hD hS (lv_sub hl [0, 1, 2, 3, 4] rfl)
        · have tc_6 : 200 < v.toInt := v_nle c_6
          refine lv_iconst (v := 0) hx hb dX12_cost_30 (by decide) ?_
          exact kl_z (v := 0) hQQ hx hb hr hlocks hS dX12_cost_31 (rfl) (fun PZ9 kZ9 => kZ9 0 zc ec1 ec2 ec3 zs (⟨hP, hD⟩) (g_zc) (g_zs) (by decide) (by show zs.toInt ≤ zs.toInt + 1 ∧ zs.toInt ≤ zs.toInt; omega) (by first | exact Or.inr ⟨rfl, by unfold isLq; omega, rfl, rfl, rfl, rfl⟩ | exact Or.inl ⟨by unfold isLq; omega, by unfold isLq; omega, Or.inr ⟨rfl, Or.inl (by unfold okv; omega), rfl, rfl, rfl, rfl⟩⟩) (by first | exact Or.inl ⟨by first | rfl | omega, rfl⟩ | exact Or.inr ⟨by first | decide | omega, by omega⟩))

/-! what neighbours cost, on both sides -/
def srt (x : Int32) : Int := if 97 ≤ x.toInt ∧ x.toInt ≤ 122 then 1 else if 65 ≤ x.toInt ∧ x.toInt ≤ 90 then 2 else if 48 ≤ x.toInt ∧ x.toInt ≤ 57 then 3 else if x.toInt = 32 then 4 else if 33 ≤ x.toInt ∧ x.toInt ≤ 126 then 5 else if 192 ≤ x.toInt ∧ x.toInt ≤ 591 ∧ ¬ x.toInt = 215 ∧ ¬ x.toInt = 247 then 6 else if 880 ≤ x.toInt ∧ x.toInt ≤ 1327 then 7 else 0
def sC (x y : Int32) : Int := (if srt x = srt y then 4 else 9) + (if srt x = 0 then 30 else 0) + (if srt y = 0 then 30 else 0)
def cF (t x y : Int32) : Int := if t = -1 then sC x y else t.toInt
theorem sC_r (x y : Int32) : 0 ≤ sC x y ∧ sC x y ≤ 69 := by
  unfold sC
  split <;> split <;> split <;> omega
theorem told_1 {K V : Nat → Int32} {w v v' : Int32} (hT : HT 1024 1023 hsK K V) (h : toldK 1024 K V w v) (h' : toldK 1024 K V w v') : v = v' := by
  obtain ⟨s, s1, s2, s3, s4⟩ := h
  obtain ⟨t, t1, t2, t3, t4⟩ := h'
  have e := pl_one hT s1 t1 (by rw [s3]; exact s4) (by rw [t3]; exact t4) s2 t2
  rw [← s3, ← t3, e]
noncomputable def tcC (K V : Nat → Int32) (x y : Int32) : Int32 := @dite Int32 (∃ v : Int32, toldK 1024 K V (pk2 x y) v) (Classical.propDecidable _) (fun h => Classical.choose h) (fun _ => -1)
theorem tcC_of {K V : Nat → Int32} {x y v : Int32} (hT : HT 1024 1023 hsK K V) (h : toldK 1024 K V (pk2 x y) v) : tcC K V x y = v := by
  have e : ∃ v : Int32, toldK 1024 K V (pk2 x y) v := ⟨v, h⟩
  unfold tcC
  rw [dif_pos e]
  exact told_1 hT (Classical.choose_spec e) h
theorem tcC_no {K V : Nat → Int32} {x y : Int32} (h : ∀ v, ¬ toldK 1024 K V (pk2 x y) v) : tcC K V x y = -1 := by
  unfold tcC
  exact dif_neg (fun e => e.elim (fun v hv => h v hv))
theorem occ_z {V : Nat → Int32} : ∀ n, occ V n = 0 → ∀ j, j < n → V j = -1
  | 0, _, _, h => absurd h (Nat.not_lt_zero _)
  | n + 1, h, j, hj => by
    rw [occ] at h
    by_cases e : V n = -1
    · by_cases z : j = n
      · rw [z]; exact e
      · exact occ_z n (by omega) j (by omega)
    · rw [if_neg e] at h
      omega
theorem tc_empty {K V : Nat → Int32} {x y l : Int32} (ho : (occ V 1024 : Int) ≤ l.toInt) (hl : l.toInt = 0) : tcC K V x y = -1 := by
  refine tcC_no (fun v hv => ?_)
  obtain ⟨s, s1, s2, s3, s4⟩ := hv
  exact s4 (by rw [← s3]; exact occ_z 1024 (by omega) s (by omega))
theorem tc_free {K V : Nat → Int32} {x y r : Int32} (hT : HT 1024 1023 hsK K V) (h : F_pl 1024 1023 (hsK (pk2 x y)) (pk2 x y) r K V) (hf : V r.toNatClampNeg = -1) : tcC K V x y = -1 := tcC_no (fun _ => pl_free hT h hf)
theorem tc_told {K V : Nat → Int32} {x y r v : Int32} (hT : HT 1024 1023 hsK K V) (h : F_pl 1024 1023 (hsK (pk2 x y)) (pk2 x y) r K V) (h0 : 0 ≤ r.toInt) (h1 : r.toInt < 1024) (ev : v = V r.toNatClampNeg) (hv : ¬ v = -1) : tcC K V x y = v := by
  have c := v_clamp h0
  exact tcC_of hT ⟨r.toNatClampNeg, by omega, pl_own h (by rw [← ev]; exact hv), ev.symm, hv⟩
/-- the first place of the list that tells the two -/
def fstP (n : Int) (X Y Z : Nat → Int32) (x y v : Int32) : Prop := ∃ j : Nat, (j : Int) < n ∧ X j = x ∧ Y j = y ∧ Z j = v ∧ noP j x y X Y
noncomputable def tcR (n : Int) (X Y Z : Nat → Int32) (x y : Int32) : Int32 := @dite Int32 (∃ v : Int32, fstP n X Y Z x y v) (Classical.propDecidable _) (fun h => Classical.choose h) (fun _ => -1)
theorem fstP_u {n : Int} {X Y Z : Nat → Int32} {x y v v' : Int32} (h : fstP n X Y Z x y v) (h' : fstP n X Y Z x y v') : v = v' := by
  obtain ⟨i, i1, i2, i3, i4, i5⟩ := h
  obtain ⟨j, j1, j2, j3, j4, j5⟩ := h'
  rcases Nat.lt_trichotomy i j with z | z | z
  · exact absurd ⟨i2, i3⟩ (j5 i (by omega))
  · rw [← i4, ← j4, z]
  · exact absurd ⟨j2, j3⟩ (i5 j (by omega))
theorem tcR_of {n : Int} {X Y Z : Nat → Int32} {x y v : Int32} (h : fstP n X Y Z x y v) : tcR n X Y Z x y = v := by
  have e : ∃ v : Int32, fstP n X Y Z x y v := ⟨v, h⟩
  unfold tcR
  rw [dif_pos e]
  exact fstP_u (Classical.choose_spec e) h
theorem tcR_no {n : Int} {X Y Z : Nat → Int32} {x y : Int32} (h : noP n x y X Y) : tcR n X Y Z x y = -1 := by
  unfold tcR
  exact dif_neg (fun e => e.elim (fun v hv => by obtain ⟨j, j1, j2, j3, _⟩ := hv; exact h j j1 ⟨j2, j3⟩))
/-- what a whole text costs -/
def pv (f : Nat → Int32) : Nat → Int32
  | 0 => 32
  | i + 1 => f i
def cs (T : Int32 → Int32 → Int32) (f : Nat → Int32) : Nat → Int
  | 0 => 0
  | i + 1 => cs T f i + cF (T (pv f i) (f i)) (pv f i) (f i)
def cT (T : Int32 → Int32 → Int32) (n : Int) (f : Nat → Int32) : Int := cs T f n.toNat + cF (T (pv f n.toNat) 32) (pv f n.toNat) 32
theorem pv_r {f : Nat → Int32} {n : Nat} (h : prg n 0 65535 f) : ∀ i, i ≤ n → 0 ≤ (pv f i).toInt ∧ (pv f i).toInt ≤ 65535
  | 0, _ => ⟨by show (0 : Int) ≤ (32 : Int32).toInt; decide, by show (32 : Int32).toInt ≤ 65535; decide⟩
  | i + 1, hi => h i (by omega)
theorem cs_congr {T T' : Int32 → Int32 → Int32} {f g : Nat → Int32} {n : Nat} (hT : ∀ x y : Int32, 0 ≤ x.toInt → x.toInt ≤ 65535 → 0 ≤ y.toInt → y.toInt ≤ 65535 → T x y = T' x y) (hf : prg n 0 65535 f) (hg : ∀ j, j < n → f j = g j) : ∀ i, i ≤ n → cs T f i = cs T' g i ∧ pv f i = pv g i
  | 0, _ => ⟨rfl, rfl⟩
  | i + 1, hi => by
    obtain ⟨a1, a2⟩ := cs_congr hT hf hg i (by omega)
    have r1 := pv_r hf i (by omega)
    have r2 := hf i (by omega)
    have e := hg i (by omega)
    refine ⟨?_, e⟩
    rw [cs, cs, a1, ← a2, ← e, hT _ _ r1.1 r1.2 r2.1 r2.2]
theorem cT_congr {T T' : Int32 → Int32 → Int32} {f g : Nat → Int32} {n n' : Int} (en : n = n') (h0 : 0 ≤ n) (hT : ∀ x y : Int32, 0 ≤ x.toInt → x.toInt ≤ 65535 → 0 ≤ y.toInt → y.toInt ≤ 65535 → T x y = T' x y) (hf : prg n 0 65535 f) (hg : ∀ j : Nat, (j : Int) < n → f j = g j) : cT T n f = cT T' n' g := by
  subst en
  have hf2 : prg n.toNat 0 65535 f := fun j hj => hf j (by omega)
  obtain ⟨a1, a2⟩ := cs_congr (n := n.toNat) hT hf2 (fun j hj => hg j (by omega)) n.toNat (Nat.le_refl _)
  have r1 := pv_r hf2 n.toNat (Nat.le_refl _)
  unfold cT
  rw [a1, ← a2, hT _ 32 r1.1 r1.2 (by decide) (by decide)]
theorem cs_s {T : Int32 → Int32 → Int32} {f : Nat → Int32} {i i' su su' be x r : Int32} (h : su.toInt = cs T f i.toNatClampNeg) (hb : be = pv f i.toNatClampNeg) (hx : x = f i.toNatClampNeg) (hr : r.toInt = cF (T be x) be x) (hs : su'.toInt = su.toInt + r.toInt) (h0 : 0 ≤ i.toInt) (hi' : i'.toInt = i.toInt + 1) : su'.toInt = cs T f i'.toNatClampNeg ∧ x = pv f i'.toNatClampNeg := by
  have c := v_clamp h0
  have e : i'.toNatClampNeg = i.toNatClampNeg + 1 := ix_eq (by omega)
  rw [e, cs, pv, ← hb, ← hx, ← h, ← hr]
  exact ⟨hs, rfl⟩
theorem cT_of {T : Int32 → Int32 → Int32} {f : Nat → Int32} {i su be r s : Int32} {n : Int} (h : su.toInt = cs T f i.toNatClampNeg) (hb : be = pv f i.toNatClampNeg) (hr : r.toInt = cF (T be 32) be 32) (hs : s.toInt = su.toInt + r.toInt) (h0 : 0 ≤ i.toInt) (hi : i.toInt = n) : s.toInt = cT T n f := by
  have c := v_clamp h0
  have e : n.toNat = i.toNatClampNeg := by omega
  unfold cT
  rw [e, ← hb, ← h, ← hr]; exact hs
/-! what cost() does to told values, on both sides -/
theorem tk_other {l l' r v w w' v' : Int32} {K K' V V' : Nat → Int32} (hT : HT 1024 1023 hsK K V) (h : F_tk l l' r v w K K' V V') (hne : ¬ (r = 1 ∧ w' = w)) : toldK 1024 K' V' w' v' ↔ toldK 1024 K V w' v' := by
  rcases h with ⟨e, hv, ⟨t1, t2, t3, s, s1, s2, s3, s4⟩ | ⟨t1, t2, t3, q, q0, q1, q2, q3, q4, q5⟩⟩ | ⟨e, -, t1, t2, t3⟩
  · rw [t3, s2]
    constructor
    · rintro ⟨t, a1, a2, a3, a4⟩
      by_cases z : t = s
      · exact absurd ⟨e, by rw [← a2, z, s4]⟩ hne
      · rw [pk_un z] at a3
        exact ⟨t, a1, a2, a3, a4⟩
    · rintro ⟨t, a1, a2, a3, a4⟩
      by_cases z : t = s
      · exact absurd ⟨e, by rw [← a2, z, s4]⟩ hne
      · exact ⟨t, a1, a2, by rw [pk_un z]; exact a3, a4⟩
  · rw [q4, q5]
    constructor
    · rintro ⟨t, a1, a2, a3, a4⟩
      by_cases z : t = q.toNatClampNeg
      · rw [z, pk_us] at a2
        exact absurd ⟨e, a2.symm⟩ hne
      · rw [pk_un z] at a2 a3
        exact ⟨t, a1, a2, a3, a4⟩
    · rintro ⟨t, a1, a2, a3, a4⟩
      by_cases z : t = q.toNatClampNeg
      · rw [z, q3] at a3
        exact absurd a3.symm a4
      · exact ⟨t, a1, by rw [pk_un z]; exact a2, by rw [pk_un z]; exact a3, a4⟩
  · rw [t2, t3]
theorem tk_own {l l' r v w : Int32} {K K' V V' : Nat → Int32} (h : F_tk l l' r v w K K' V V') (h1 : r = 1) : toldK 1024 K' V' w v := by
  rcases h with ⟨e, hv, ⟨t1, t2, t3, s, s1, s2, s3, s4⟩ | ⟨t1, t2, t3, q, q0, q1, q2, q3, q4, q5⟩⟩ | ⟨e, -, t1, t2, t3⟩
  · exact ⟨s, s3, by rw [t3]; exact s4, by rw [s2, pk_us], okv_ne hv⟩
  · have c := v_clamp q0
    exact ⟨q.toNatClampNeg, by omega, by rw [q4, pk_us], by rw [q5, pk_us], okv_ne hv⟩
  · rw [h1] at e; exact absurd e (by decide)
theorem tcC_eq {K K' V V' : Nat → Int32} {x y : Int32} (hT : HT 1024 1023 hsK K V) (hT' : HT 1024 1023 hsK K' V') (h : ∀ v, toldK 1024 K' V' (pk2 x y) v ↔ toldK 1024 K V (pk2 x y) v) : tcC K' V' x y = tcC K V x y := by
  by_cases e : ∃ v : Int32, toldK 1024 K V (pk2 x y) v
  · obtain ⟨v, hv⟩ := e
    rw [tcC_of hT hv, tcC_of hT' ((h v).mpr hv)]
  · rw [tcC_no (fun v hv => e ⟨v, hv⟩), tcC_no (fun v hv => e ⟨v, (h v).mp hv⟩)]
theorem fst_other {z z' r x y v x' y' v' : Int32} {X X' Y Y' Z Z' : Nat → Int32} (hz : 0 ≤ z.toInt) (h : F_ck z z' r x y v X X' Y Y' Z Z') (hne : ¬ (r = 1 ∧ x' = x ∧ y' = y)) : fstP z'.toInt X' Y' Z' x' y' v' ↔ fstP z.toInt X Y Z x' y' v' := by
  have c := v_clamp hz
  rcases h with ⟨-, -, ⟨e, -, ⟨t1, t2, k, k1, k2, k3, k4, k5, k6, k7⟩ | ⟨t1, t2, t3, t4, t5, t6⟩⟩ | ⟨e, -, t1, t2, t3, t4⟩⟩ | ⟨e, -, t1, t2, t3, t4⟩
  · rw [upd_id k1] at k3
    rw [upd_id k2] at k4
    rw [k3, k4, k5, t2]
    constructor
    · rintro ⟨j, a1, a2, a3, a4, a5⟩
      by_cases w : j = k
      · exact absurd ⟨e, by rw [← a2, w, k1], by rw [← a3, w, k2]⟩ hne
      · rw [pk_un w] at a4
        exact ⟨j, a1, a2, a3, a4, a5⟩
    · rintro ⟨j, a1, a2, a3, a4, a5⟩
      by_cases w : j = k
      · exact absurd ⟨e, by rw [← a2, w, k1], by rw [← a3, w, k2]⟩ hne
      · exact ⟨j, a1, a2, a3, by rw [pk_un w]; exact a4, a5⟩
  · have lo : ∀ j : Nat, (j : Int) < z.toInt → X' j = X j ∧ Y' j = Y j ∧ Z' j = Z j := fun j hj => by
      rw [t4, t5, t6, pk_un (by omega), pk_un (by omega), pk_un (by omega)]; exact ⟨rfl, rfl, rfl⟩
    constructor
    · rintro ⟨j, a1, a2, a3, a4, a5⟩
      by_cases w : j = z.toNatClampNeg
      · rw [t4, w, pk_us] at a2
        rw [t5, w, pk_us] at a3
        exact absurd ⟨e, a2.symm, a3.symm⟩ hne
      · obtain ⟨l1, l2, l3⟩ := lo j (by omega)
        rw [l1] at a2
        rw [l2] at a3
        rw [l3] at a4
        refine ⟨j, by omega, a2, a3, a4, fun i hi => ?_⟩
        obtain ⟨m1, m2, m3⟩ := lo i (by omega)
        have q := a5 i hi
        rw [m1, m2] at q
        exact q
    · rintro ⟨j, a1, a2, a3, a4, a5⟩
      obtain ⟨l1, l2, l3⟩ := lo j (by omega)
      refine ⟨j, by omega, by rw [l1]; exact a2, by rw [l2]; exact a3, by rw [l3]; exact a4, fun i hi => ?_⟩
      obtain ⟨m1, m2, m3⟩ := lo i (by omega)
      rw [m1, m2]
      exact a5 i hi
  · rw [t1, t2, t3, t4]
  · rw [t1, t2, t3, t4]
theorem fst_own {z z' r x y v : Int32} {X X' Y Y' Z Z' : Nat → Int32} (hz : 0 ≤ z.toInt) (h : F_ck z z' r x y v X X' Y Y' Z Z') (h1 : r = 1) : fstP z'.toInt X' Y' Z' x y v := by
  have c := v_clamp hz
  have no : ∀ {q : Int32}, q = 0 → q = 1 → False := fun e1 e2 => by rw [e1] at e2; exact absurd e2 (by decide)
  rcases h with ⟨-, -, ⟨e, -, ⟨t1, t2, k, k1, k2, k3, k4, k5, k6, k7⟩ | ⟨t1, t2, t3, t4, t5, t6⟩⟩ | ⟨e, -, t1, t2, t3, t4⟩⟩ | ⟨e, -, t1, t2, t3, t4⟩
  · rw [upd_id k1] at k3
    rw [upd_id k2] at k4
    rw [k3, k4, k5, t2]
    exact ⟨k, k6, k1, k2, by rw [pk_us], k7⟩
  · refine ⟨z.toNatClampNeg, by omega, by rw [t4, pk_us], by rw [t5, pk_us], by rw [t6, pk_us], fun i hi => ?_⟩
    rw [t4, t5, pk_un (by omega), pk_un (by omega)]
    exact t1 i (by omega)
  · exact (no e h1).elim
  · exact (no e h1).elim
theorem tcR_eq {n n' : Int} {X X' Y Y' Z Z' : Nat → Int32} {x y : Int32} (h : ∀ v, fstP n' X' Y' Z' x y v ↔ fstP n X Y Z x y v) : tcR n' X' Y' Z' x y = tcR n X Y Z x y := by
  by_cases e : ∃ v : Int32, fstP n X Y Z x y v
  · obtain ⟨v, hv⟩ := e
    rw [tcR_of hv, tcR_of ((h v).mpr hv)]
  · unfold tcR
    rw [dif_neg e, dif_neg (fun e2 => e2.elim (fun v hv => e ⟨v, (h v).mp hv⟩))]
/-- both sides tell the same values -/
def CVR (zc : Int) (K V X Y Z : Nat → Int32) : Prop := ∀ x y : Int32, 0 ≤ x.toInt → x.toInt ≤ 65535 → 0 ≤ y.toInt → y.toInt ≤ 65535 → tcC K V x y = tcR zc X Y Z x y
theorem cval_inv {l l' r z z' q x y v : Int32} {K K' V V' X X' Y Y' Z Z' : Nat → Int32} (hz : 0 ≤ z.toInt) (hl : l.toInt = z.toInt) (hT : HT 1024 1023 hsK K V) (ho : (occ V 1024 : Int) ≤ l.toInt) (hA : alK z.toInt K V X Y) (hC : CVR z.toInt K V X Y Z) (h1 : F_cst l l' r x y v K K' V V') (h2 : F_ck z z' q x y v X X' Y Y' Z Z') : CVR z'.toInt K' V' X' Y' Z' := by
  have hr := (cost_r hl hA h1 h2).1
  have hT' := (cost_inv hz hl hT ho hA h1 h2).1
  intro x' y' x0 x1 y0 y1
  rcases h1 with ⟨a1, a2, a3⟩ | ⟨a3, a4, a5, a6, a7⟩
  · by_cases w : r = 1 ∧ x' = x ∧ y' = y
    · obtain ⟨w1, w2, w3⟩ := w
      rw [w2, w3, tcC_of hT' (tk_own a3 w1), tcR_of (fst_own hz h2 (hr ▸ w1))]
    · have n1 : ¬ (r = 1 ∧ pk2 x' y' = pk2 x y) := fun e => by
        obtain ⟨e1, e2⟩ := pk2_inj ⟨x0, x1⟩ ⟨y0, y1⟩ (isLq_r a1) (isLq_r a2) e.2
        exact w ⟨e.1, e1, e2⟩
      rw [tcC_eq hT hT' (fun u => tk_other hT a3 n1), tcR_eq (fun u => fst_other hz h2 (hr ▸ w))]
      exact hC x' y' x0 x1 y0 y1
  · have n2 : ¬ (q = 1 ∧ x' = x ∧ y' = y) := fun e => by
      have e1 := e.1
      rw [← hr, a3] at e1
      exact absurd e1 (by decide)
    rw [a6, a7, tcR_eq (fun u => fst_other hz h2 n2)]
    exact hC x' y' x0 x1 y0 y1
theorem okv_b {v : Int32} (h : okv v) : -1 ≤ v.toInt ∧ v.toInt ≤ 200 := ⟨by have := h.1; omega, h.2⟩
theorem cst_V {l l' r x y v : Int32} {K K' V V' : Nat → Int32} (h : F_cst l l' r x y v K K' V V') (hV : prg 1024 (-1) 200 V) : prg 1024 (-1) 200 V' := by
  have st : ∀ {s : Nat} {u : Int32}, okv u → prg 1024 (-1) 200 (upd V s u) := fun {s u} hu j hj => by
    by_cases z : j = s
    · rw [z, pk_us]; exact okv_b hu
    · rw [pk_un z]; exact hV j hj
  rcases h with ⟨-, -, ⟨e, hv, ⟨t1, t2, t3, s, s1, s2, s3, s4⟩ | ⟨t1, t2, t3, q, q0, q1, q2, q3, q4, q5⟩⟩ | ⟨e, -, t1, t2, t3⟩⟩ | ⟨-, -, -, -, t3⟩
  · rw [s2]; exact st hv
  · rw [q5]; exact st hv
  · rw [t3]; exact hV
  · rw [t3]; exact hV
theorem ck_V {z z' r x y v : Int32} {X X' Y Y' Z Z' : Nat → Int32} (h : F_ck z z' r x y v X X' Y Y' Z Z') (hV : rg 0 200 Z) : rg 0 200 Z' := by
  have st : ∀ {s : Nat} {u : Int32}, okv u → rg 0 200 (upd Z s u) := fun {s u} hu j => by
    by_cases w : j = s
    · rw [w, pk_us]; exact hu
    · rw [pk_un w]; exact hV j
  rcases h with ⟨-, -, ⟨e, hv, ⟨t1, t2, k, k1, k2, k3, k4, k5, k6, k7⟩ | ⟨t1, t2, t3, t4, t5, t6⟩⟩ | ⟨e, -, t1, t2, t3, t4⟩⟩ | ⟨e, -, t1, t2, t3, t4⟩
  · rw [k5]; exact st hv
  · rw [t6]; exact st hv
  · rw [t4]; exact hV
  · rw [t4]; exact hV

end

/-! 58.list -/
section
def okc (c : Int32) : Prop := 0 ≤ c.toInt ∧ c.toInt ≤ 5
def F_tell (l l' r a b : Int32) (f f' g g' : Nat → Int32) : Prop := (r = 1 ∧ l.toInt < 6 ∧ noP l.toInt a b f g ∧ l'.toInt = l.toInt + 1 ∧ f' = upd f l.toNatClampNeg a ∧ g' = upd g l.toNatClampNeg b) ∨ (r = 0 ∧ (6 ≤ l.toInt ∨ isP l.toInt a b f g) ∧ l' = l ∧ f' = f ∧ g' = g)
def F_list (l l' r a b : Int32) (f f' g g' : Nat → Int32) : Prop := (okc a ∧ okc b ∧ l.toInt < 6 ∧ noP l.toInt a b f g ∧ r.toInt = l.toInt ∧ l'.toInt = l.toInt + 1 ∧ f' = upd f l.toNatClampNeg a ∧ g' = upd g l.toNatClampNeg b) ∨ (r = -1 ∧ (¬ okc a ∨ ¬ okc b ∨ 6 ≤ l.toInt ∨ isP l.toInt a b f g) ∧ l' = l ∧ f' = f ∧ g' = g)
theorem F_list_of {l l' r q a b : Int32} {f f' g g' : Nat → Int32} (h : F_tell l l' r a b f f' g g') (ha : okc a) (hb : okc b) (h1 : r = 1 → q.toInt = l'.toInt - 1) (h0 : r = 0 → q = -1) : F_list l l' q a b f f' g g' := by
  rcases h with ⟨e, z1, z2, z3, z4, z5⟩ | ⟨e, z1, z2, z3, z4⟩
  · have := h1 e
    exact Or.inl ⟨ha, hb, z1, z2, by omega, z3, z4, z5⟩
  · exact Or.inr ⟨h0 e, z1.elim (fun w => Or.inr (Or.inr (Or.inl w))) (fun w => Or.inr (Or.inr (Or.inr w))), z2, z3, z4⟩
/-- both lists are alike -/
def eqP (n : Int) (f f2 g g2 : Nat → Int32) : Prop := ∀ j : Nat, (j : Int) < n → f j = f2 j ∧ g j = g2 j
theorem eqP_isP {n : Int} {a b : Int32} {f f2 g g2 : Nat → Int32} (h : eqP n f f2 g g2) (h2 : isP n a b f g) : isP n a b f2 g2 := by
  obtain ⟨j, h1, h3, h4⟩ := h2
  exact ⟨j, h1, by rw [← (h j h1).1]; exact h3, by rw [← (h j h1).2]; exact h4⟩
theorem eqP_symm {n : Int} {f f2 g g2 : Nat → Int32} (h : eqP n f f2 g g2) : eqP n f2 f g2 g := fun j hj => ⟨(h j hj).1.symm, (h j hj).2.symm⟩
theorem list_eq {l l' r z z' q a b : Int32} {f f' g g' f2 f2' g2 g2' : Nat → Int32} (hl : l.toInt = z.toInt) (he : eqP l.toInt f f2 g g2) (h1 : F_list l l' r a b f f' g g') (h2 : F_list z z' q a b f2 f2' g2 g2') : r = q ∧ l'.toInt = z'.toInt ∧ (0 ≤ l.toInt → eqP l'.toInt f' f2' g' g2') := by
  have hlz : l = z := v_inj hl
  subst hlz
  rcases h1 with ⟨a1, a2, a3, a4, a5, a6, a7, a8⟩ | ⟨a1, a2, a3, a4, a5⟩ <;> rcases h2 with ⟨b1, b2, b3, b4, b5, b6, b7, b8⟩ | ⟨b1, b2, b3, b4, b5⟩
  · refine ⟨v_inj (by omega), by omega, fun h0 j hj => ?_⟩
    have q := v_clamp h0
    rw [a7, a8, b7, b8]
    by_cases w : j = l.toNatClampNeg
    · rw [w]; exact ⟨by rw [pk_us, pk_us], by rw [pk_us, pk_us]⟩
    · rw [pk_un w, pk_un w, pk_un w, pk_un w]; exact he j (by omega)
  · exfalso
    rcases b2 with w | w | w | w
    · exact w a1
    · exact w a2
    · omega
    · exact noP_isP a4 (eqP_isP (eqP_symm he) w)
  · exfalso
    rcases a2 with w | w | w | w
    · exact w b1
    · exact w b2
    · omega
    · exact noP_isP b4 (eqP_isP he w)
  · refine ⟨by rw [a1, b1], by rw [a3, b3], fun _ => ?_⟩
    rw [a3, a4, a5, b4, b5]; exact he

set_option maxHeartbeats 40000000 in
set_option maxRecDepth 100000 in
theorem f_X4_tell (l : Launch) (dC : Nat → ClassId) (dI : Nat → Nat → Nat) (cI cS : ClassId) (sz : Nat) (oH : Nat) (oP : Nat) (h1 : Nat) (h2 : Nat) (lH : Int32) (fH1 : Nat → Int32) (fH2 : Nat → Int32) (a : Int32) (b : Int32) (g_lH : 0 ≤ lH.toInt ∧ lH.toInt ≤ 6) : kMi l yX4_tell wsX4_tell ({ frames := 0, cells := 0, slots := 0, locals := 0 } : Room) [.ref oH, .int a, .int b] sz (dC, dI) vwCl [(cI, .int), (cS, .short)] [(oH, .inr (4, [.ref oP, .ref h1, .ref h2, .int lH])), (h1, .inl (cI, 6, .inl fH1)), (h2, .inl (cI, 6, .inl fH2))] (fun _ => True) 0 0 (fun (A : Nat → Prop) (r : Int32) (hh9 : Heap) => ∀ PZ9 : Prop, (∀ (lH' : Int32) (fH1' : Nat → Int32) (fH2' : Nat → Int32), kPD (dC, dI) vwCl A [(oH, .inr (4, [.ref oP, .ref h1, .ref h2, .int lH'])), (h1, .inl (cI, 6, .inl fH1')), (h2, .inl (cI, 6, .inl fH2'))] hh9 → (0 ≤ lH'.toInt ∧ lH'.toInt ≤ 6) → (0 ≤ r.toInt ∧ r.toInt ≤ 1) → ((r.toInt = 1 ∧ lH'.toInt = lH.toInt + 1) ∨ (r.toInt = 0 ∧ lH'.toInt = lH.toInt)) → (F_tell lH lH' r a b fH1 fH1' fH2 fH2') → PZ9) → PZ9) := by
  refine kMi_of (cc := cX4_tell) (maxL := 4) (ret := (some .boolean)) (lv := [(0, .ref oH), (1, .int a), (2, .int b)]) (by decide +kernel) rfl rfl (Nat.le_of_ble_eq_true rfl) ?_
  intro p e s m below meth c A QQ ls hx hb hr hts hml hown hlocks hA hQQ hK hX hP hD hS hl
  have hown : s.vm.findClass RX4 = some m.cls := hown
  have hcf := k_cf hx hb hml hown hts
  have in_X4 : ∀ w ∈ wsX40, w ∈ wsX4_tell := fun _ h => List.mem_cons_of_mem _ (List.mem_append_right _ (h))
  refine lv_iconst (v := 0) hx hb dX4_tell_0 (by decide) ?_
  refine lv_istore_n (lv' := [(3, .int 0), (0, .ref oH), (1, .int a), (2, .int b)]) hx hb dX4_tell_1 rfl hl (by decide) rfl (fun ls hl => ?_)
  have LOOP_2 : ∀ (k_2 : Nat) (h : Int32) (H : Heap) (locs : List Loc) (ls : Array Slot), MSd (lH.toInt - h.toInt : Int) k_2 → (0 ≤ h.toInt ∧ h.toInt ≤ 6) → (noP h.toInt a b fH1 fH2) → (h.toInt ≤ lH.toInt) → va_P (dC, dI) vwCl [(oH, .inr (4, [.ref oP, .ref h1, .ref h2, .int lH])), (h1, .inl (cI, 6, .inl fH1)), (h2, .inl (cI, 6, .inl fH2))] H → va_D A [(oH, .inr (4, [.ref oP, .ref h1, .ref h2, .int lH])), (h1, .inl (cI, 6, .inl fH1)), (h2, .inl (cI, 6, .inl fH2))] → va_S A s.heap H locs → lv_has ls 4 [(3, .int h), (0, .ref oH), (1, .int a), (2, .int b)] → W p l e (headSpec wsX4_tell ({ frames := 0, cells := 0, slots := 0, locals := 0 } : Room)).room s m ([.ref oH, .int a, .int b] : List Value).toArray below meth c H locs 0 0 (MQ below QQ ([.ref oH, .int a, .int b] : List Value).toArray s 0 0 A) (F0 m 2 ls []) := by
    clear hP hD hS hl
    intro k_2
    induction k_2 with
    | zero =>
      intro h H locs ls hm_2 g_h hno hhl hP hD hS hl
      exact ms_0 hm_2
    | succ k_2 ih_2 =>
      intro h H locs ls hm_2 g_h hno hhl hP hD hS hl
      refine lv_iload_n hx hb dX4_tell_2 rfl (lv_at hl 0 rfl) ?_
      refine lv_aload_n hx hb dX4_tell_3 rfl (lv_at hl 1 rfl) ?_
      refine va_get (D := (dC, dI)) (ci := 4) (v := .int lH) (C := RX4) (T := TX4) (N := 4) hx hb hts in_X4 hown hK hP 0 rfl rfl 3 (Nat.le_of_ble_eq_true rfl) (hts (.fieldLink RX4 22 "TextMender$Harms" "length" "I") (List.mem_of_getElem? (i := 1) rfl)) (fun _ h9 => h9) rfl dX4_tell_4 ?_
      refine lv_icmp_ge (tgt := 38) hx hb dX4_tell_7 (by decide) (fun c_1 => ?_) (fun c_1 => ?_)
      · have tc_1 : lH.toInt ≤ h.toInt := v_le c_1
        refine lv_aload_n hx hb dX4_tell_38 rfl (lv_at hl 1 rfl) ?_
        refine va_get (D := (dC, dI)) (ci := 4) (v := .int lH) (C := RX4) (T := TX4) (N := 4) hx hb hts in_X4 hown hK hP 0 rfl rfl 3 (Nat.le_of_ble_eq_true rfl) (hts (.fieldLink RX4 22 "TextMender$Harms" "length" "I") (List.mem_of_getElem? (i := 1) rfl)) (fun _ h9 => h9) rfl dX4_tell_39 ?_
        refine lv_bipush (v := 6) hx hb dX4_tell_42 (by decide) ?_
        refine lv_icmp_lt (tgt := 49) hx hb dX4_tell_44 (by decide) (fun c_2 => ?_) (fun c_2 => ?_)
        · have tc_2 : lH.toInt < 6 := v_lt c_2
          refine lv_aload_n hx hb dX4_tell_49 rfl (lv_at hl 1 rfl) ?_
          refine va_get (D := (dC, dI)) (ci := 4) (v := .ref h1) (C := RX4) (T := TX4) (N := 4) hx hb hts in_X4 hown hK hP 0 rfl rfl 1 (Nat.le_of_ble_eq_true rfl) (hts (.fieldLink RX4 9 "TextMender$Harms" "writtenIn" "[I") (List.mem_of_getElem? (i := 2) rfl)) (fun _ h9 => h9) rfl dX4_tell_50 ?_
          refine lv_aload_n hx hb dX4_tell_53 rfl (lv_at hl 1 rfl) ?_
          refine va_get (D := (dC, dI)) (ci := 4) (v := .int lH) (C := RX4) (T := TX4) (N := 4) hx hb hts in_X4 hown hK hP 0 rfl rfl 3 (Nat.le_of_ble_eq_true rfl) (hts (.fieldLink RX4 22 "TextMender$Harms" "length" "I") (List.mem_of_getElem? (i := 1) rfl)) (fun _ h9 => h9) rfl dX4_tell_54 ?_
          refine lv_iload_n hx hb dX4_tell_57 rfl (lv_at hl 2 rfl) ?_
          obtain ⟨f_3, ef_3⟩ : ∃ g : Nat → Int32, g = upd fH1 (lH : Int32).toNatClampNeg a := ⟨_, rfl⟩
          refine va_iast hx hb hK hP hD hS 1 0 rfl rfl (v_in (by omega)) dX4_tell_58 (kWf (g := f_3) (F := fun f_3 => [(oH, .inr (4, [.ref oP, .ref h1, .ref h2, .int lH])), (h1, .inl (cI, 6, .inl f_3)), (h2, .inl (cI, 6, .inl fH2))]) ef_3 rfl (fun H locs hPn hDn hSn => ?_))
          clear hP hD hS
          have hP := hPn
          have hD := hDn
          have hS := hSn
          clear hPn hDn hSn
          refine lv_aload_n hx hb dX4_tell_59 rfl (lv_at hl 1 rfl) ?_
          refine va_get (D := (dC, dI)) (ci := 4) (v := .ref h2) (C := RX4) (T := TX4) (N := 4) hx hb hts in_X4 hown hK hP 0 rfl rfl 2 (Nat.le_of_ble_eq_true rfl) (hts (.fieldLink RX4 15 "TextMender$Harms" "readIn" "[I") (List.mem_of_getElem? (i := 3) rfl)) (fun _ h9 => h9) rfl dX4_tell_60 ?_
          refine lv_aload_n hx hb dX4_tell_63 rfl (lv_at hl 1 rfl) ?_
          refine va_get (D := (dC, dI)) (ci := 4) (v := .int lH) (C := RX4) (T := TX4) (N := 4) hx hb hts in_X4 hown hK hP 0 rfl rfl 3 (Nat.le_of_ble_eq_true rfl) (hts (.fieldLink RX4 22 "TextMender$Harms" "length" "I") (List.mem_of_getElem? (i := 1) rfl)) (fun _ h9 => h9) rfl dX4_tell_64 ?_
          refine lv_iload_n hx hb dX4_tell_67 rfl (lv_at hl 3 rfl) ?_
          obtain ⟨f_4, ef_4⟩ : ∃ g : Nat → Int32, g = upd fH2 (lH : Int32).toNatClampNeg b := ⟨_, rfl⟩
          refine va_iast hx hb hK hP hD hS 2 0 rfl rfl (v_in (by omega)) dX4_tell_68 (kWf (g := f_4) (F := fun f_4 => [(oH, .inr (4, [.ref oP, .ref h1, .ref h2, .int lH])), (h1, .inl (cI, 6, .inl f_3)), (h2, .inl (cI, 6, .inl f_4))]) ef_4 rfl (fun H locs hPn hDn hSn => ?_))
          clear hP hD hS
          have hP := hPn
          have hD := hDn
          have hS := hSn
          clear hPn hDn hSn
          refine lv_aload_n hx hb dX4_tell_69 rfl (lv_at hl 1 rfl) ?_
          refine lv_dup hx hb dX4_tell_70 rfl ?_
          refine va_get (D := (dC, dI)) (ci := 4) (v := .int lH) (C := RX4) (T := TX4) (N := 4) hx hb hts in_X4 hown hK hP 0 rfl rfl 3 (Nat.le_of_ble_eq_true rfl) (hts (.fieldLink RX4 22 "TextMender$Harms" "length" "I") (List.mem_of_getElem? (i := 1) rfl)) (fun _ h9 => h9) rfl dX4_tell_71 ?_
          refine lv_iconst (v := 1) hx hb dX4_tell_74 (by decide) ?_
          refine lv_iadd hx hb dX4_tell_75 ?_
          refine lv_topi (fun x_5 ex_5 => ?_)
          have tx_5 : x_5.toInt = lH.toInt + 1 := v_addR (l2 := 1) (h2 := 1) ex_5 g_lH (by decide) (by decide) (by decide)
          refine va_put (D := (dC, dI)) (ci := 4) (v := .int x_5) (ty := .int) (C := RX4) (T := TX4) (N := 4) hx hb hts in_X4 tyX4 tyX4_ok nmX4 hown hK hP hD hS 0 rfl rfl 3 (Nat.le_of_ble_eq_true rfl) (hts (.fieldLink RX4 22 "TextMender$Harms" "length" "I") (List.mem_of_getElem? (i := 1) rfl)) (fun _ h9 => h9) rfl (tyX4_ok 3 (Nat.le_of_ble_eq_true rfl)) rfl rfl (Nat.le_of_ble_eq_true rfl) dX4_tell_76 (kW (wn := [(oH, .inr (4, [.ref oP, .ref h1, .ref h2, .int x_5])), (h1, .inl (cI, 6, .inl f_3)), (h2, .inl (cI, 6, .inl f_4))]) rfl (fun H locs hPn hDn hSn => ?_))
          clear hP hD hS
          have hP := hPn
          have hD := hDn
          have hS := hSn
          clear hPn hDn hSn
          refine lv_iconst (v := 1) hx hb dX4_tell_79 (by decide) ?_
          exact kl_z (v := 1) hQQ hx hb hr hlocks hS dX4_tell_80 (rfl) (fun PZ9 kZ9 => kZ9 x_5 f_3 f_4 (⟨hP, hD⟩) (by omega) (by decide) (by show (1 = 1 ∧ x_5.toInt = lH.toInt + 1) ∨ (1 = 0 ∧ x_5.toInt = lH.toInt); omega) (Or.inl ⟨rfl, by omega, fun j hj => hno j (by omega), by omega, ef_3, ef_4⟩))
        · have tc_2 : 6 ≤ lH.toInt := v_nlt c_2
          refine lv_iconst (v := 0) hx hb dX4_tell_47 (by decide) ?_
          exact kl_z (v := 0) hQQ hx hb hr hlocks hS dX4_tell_48 (rfl) (fun PZ9 kZ9 => kZ9 lH fH1 fH2 (⟨hP, hD⟩) (g_lH) (by decide) (by show (0 = 1 ∧ lH.toInt = lH.toInt + 1) ∨ (0 = 0 ∧ lH.toInt = lH.toInt); omega) (Or.inr ⟨rfl, Or.inl (by omega), rfl, rfl, rfl⟩))
      · have tc_1 : h.toInt < lH.toInt := v_nle c_1
        refine lv_aload_n hx hb dX4_tell_10 rfl (lv_at hl 1 rfl) ?_
        refine va_get (D := (dC, dI)) (ci := 4) (v := .ref h1) (C := RX4) (T := TX4) (N := 4) hx hb hts in_X4 hown hK hP 0 rfl rfl 1 (Nat.le_of_ble_eq_true rfl) (hts (.fieldLink RX4 9 "TextMender$Harms" "writtenIn" "[I") (List.mem_of_getElem? (i := 2) rfl)) (fun _ h9 => h9) rfl dX4_tell_11 ?_
        refine lv_iload_n hx hb dX4_tell_14 rfl (lv_at hl 0 rfl) ?_
        refine va_iald hx hb hK hP 1 0 rfl rfl (v_in (by omega)) dX4_tell_15 ?_
        refine lv_topi (fun x_6 ex_6 => ?_)
        refine lv_iload_n hx hb dX4_tell_16 rfl (lv_at hl 2 rfl) ?_
        refine lv_icmp_ne (tgt := 32) hx hb dX4_tell_17 (by decide) (fun c_7 => ?_) (fun c_7 => ?_)
        · have tc_7 : ¬ x_6.toInt = a.toInt := v_ne c_7
          have rw7_0 := v_rng x_6
          have rw7_1 := v_rng a
          obtain ⟨x_8, ex_8⟩ : ∃ y : Int32, y = h + 1 := ⟨_, rfl⟩
          have tx_8 : x_8.toInt = h.toInt + 1 := v_addR (l2 := 1) (h2 := 1) ex_8 g_h (by decide) (by decide) (by decide)
          refine lv_iinc (v := x_8) (lv' := [(3, .int x_8), (0, .ref oH), (1, .int a), (2, .int b)]) hx hb dX4_tell_32 hl (k := 0) rfl (by rw [ex_8]; rfl) (by decide) rfl (fun ls hl => ?_)
          refine lv_goto (tgt := 2) hx hb dX4_tell_35 (by decide) ?_
          exact ih_2 x_8 _ _ _ (ms_lt hm_2 (by show ((lH.toInt - x_8.toInt : Int)) < lH.toInt - h.toInt; omega) (by show (0 : Int) < lH.toInt - h.toInt; omega)) (by show 0 ≤ x_8.toInt ∧ x_8.toInt ≤ 6; omega) (noP_s1 hno ex_6 c_7 (by omega) (by omega)) (by show x_8.toInt ≤ lH.toInt; omega) hP hD hS (lv_sub hl [0, 1, 2, 3] rfl)
        · have tc_7 : x_6.toInt = a.toInt := v_eq c_7
          have rw7_0 := v_rng x_6
          have rw7_1 := v_rng a
          refine lv_aload_n hx hb dX4_tell_20 rfl (lv_at hl 1 rfl) ?_
          refine va_get (D := (dC, dI)) (ci := 4) (v := .ref h2) (C := RX4) (T := TX4) (N := 4) hx hb hts in_X4 hown hK hP 0 rfl rfl 2 (Nat.le_of_ble_eq_true rfl) (hts (.fieldLink RX4 15 "TextMender$Harms" "readIn" "[I") (List.mem_of_getElem? (i := 3) rfl)) (fun _ h9 => h9) rfl dX4_tell_21 ?_
          refine lv_iload_n hx hb dX4_tell_24 rfl (lv_at hl 0 rfl) ?_
          refine va_iald hx hb hK hP 2 0 rfl rfl (v_in (by omega)) dX4_tell_25 ?_
          refine lv_topi (fun x_9 ex_9 => ?_)
          refine lv_iload_n hx hb dX4_tell_26 rfl (lv_at hl 3 rfl) ?_
          refine lv_icmp_ne (tgt := 32) hx hb dX4_tell_27 (by decide) (fun c_10 => ?_) (fun c_10 => ?_)
          · have tc_10 : ¬ x_9.toInt = b.toInt := v_ne c_10
            have rw10_0 := v_rng x_9
            have rw10_1 := v_rng b
            obtain ⟨x_11, ex_11⟩ : ∃ y : Int32, y = h + 1 := ⟨_, rfl⟩
            have tx_11 : x_11.toInt = h.toInt + 1 := v_addR (l2 := 1) (h2 := 1) ex_11 g_h (by decide) (by decide) (by decide)
            refine lv_iinc (v := x_11) (lv' := [(3, .int x_11), (0, .ref oH), (1, .int a), (2, .int b)]) hx hb dX4_tell_32 hl (k := 0) rfl (by rw [ex_11]; rfl) (by decide) rfl (fun ls hl => ?_)
            refine lv_goto (tgt := 2) hx hb dX4_tell_35 (by decide) ?_
            exact ih_2 x_11 _ _ _ (ms_lt hm_2 (by show ((lH.toInt - x_11.toInt : Int)) < lH.toInt - h.toInt; omega) (by show (0 : Int) < lH.toInt - h.toInt; omega)) (by show 0 ≤ x_11.toInt ∧ x_11.toInt ≤ 6; omega) (noP_s2 hno ex_9 c_10 (by omega) (by omega)) (by show x_11.toInt ≤ lH.toInt; omega) hP hD hS (lv_sub hl [0, 1, 2, 3] rfl)
          · have tc_10 : x_9.toInt = b.toInt := v_eq c_10
            have rw10_0 := v_rng x_9
            have rw10_1 := v_rng b
            refine lv_iconst (v := 0) hx hb dX4_tell_30 (by decide) ?_
            exact kl_z (v := 0) hQQ hx hb hr hlocks hS dX4_tell_31 (rfl) (fun PZ9 kZ9 => kZ9 lH fH1 fH2 (⟨hP, hD⟩) (g_lH) (by decide) (by show (0 = 1 ∧ lH.toInt = lH.toInt + 1) ∨ (0 = 0 ∧ lH.toInt = lH.toInt); omega) (Or.inr ⟨rfl, Or.inr (isP_at ex_6 ex_9 c_7 c_10 (by omega) (by omega)), rfl, rfl, rfl⟩))
  exact LOOP_2 _ 0 _ _ _ (ms_s _) (by decide) (noP_0 (by decide)) (by show 0 ≤ lH.toInt; omega) hP hD hS (lv_sub hl [0, 1, 2, 3] rfl)

set_option maxHeartbeats 40000000 in
set_option maxRecDepth 100000 in
theorem f_X11_list (l : Launch) (dC : Nat → ClassId) (dI : Nat → Nat → Nat) (cI cS : ClassId) (sz : Nat) (oX : Nat) (nT : Nat) (nL : Nat) (nM : Nat) (oC : Nat) (oP : Nat) (oH : Nat) (oK : Nat) (oG : Nat) (oR : Nat) (oQ : Nat) (oW : Nat) (h1 : Nat) (h2 : Nat) (nw : Nat) (w1 : Nat) (w2 : Nat) (w3 : Nat) (o7 : Nat) (o8 : Nat) (o9 : Nat) (w4 : Nat) (w5 : Nat) (w6 : Nat) (w7 : Nat) (fa : Int32) (lH : Int32) (fH1 : Nat → Int32) (fH2 : Nat → Int32) (ke : Int32) (tl : Int32) (fsh : Int32) (wi : Int32) (ri : Int32) (fm : Int32) (lm : Int32) (a : Int32) (b : Int32) (g_lH : 0 ≤ lH.toInt ∧ lH.toInt ≤ 6) (g_ke : 0 ≤ ke.toInt ∧ ke.toInt ≤ 200) (g_fsh : 0 ≤ fsh.toInt ∧ fsh.toInt ≤ 1) (g_fm : -1 ≤ fm.toInt ∧ fm.toInt ≤ 800) (g_lm : -1 ≤ lm.toInt ∧ lm.toInt ≤ 800) : kMi l yX11_list wsX11_list ({ frames := 1, cells := 0, slots := 0, locals := 23 } : Room) [.ref oX, .int a, .int b] sz (dC, dI) vwCl [(cI, .int), (cS, .short)] [(oX, .inr (11, [.ref nT, .ref nL, .ref nM, .ref oC, .ref oP, .ref oH, .ref oK, .ref oG, .ref oR, .ref oQ, .ref oW, .int fa])), (oH, .inr (4, [.ref oP, .ref h1, .ref h2, .int lH])), (h1, .inl (cI, 6, .inl fH1)), (h2, .inl (cI, 6, .inl fH2)), (oW, .inr (1, [.ref oC, .ref oK, .ref nw, .ref w1, .ref w2, .ref w3, .ref o7, .ref o8, .ref o9, .ref w4, .ref w5, .ref w6, .ref w7, .int ke, .int tl, .int fsh, .int wi, .int ri, .int fm, .int lm]))] (fun _ => True) 0 0 (fun (A : Nat → Prop) (r : Int32) (hh9 : Heap) => ∀ PZ9 : Prop, (∀ (fa' : Int32) (lH' : Int32) (fH1' : Nat → Int32) (fH2' : Nat → Int32) (fsh' : Int32), kPD (dC, dI) vwCl A [(oX, .inr (11, [.ref nT, .ref nL, .ref nM, .ref oC, .ref oP, .ref oH, .ref oK, .ref oG, .ref oR, .ref oQ, .ref oW, .int fa'])), (oH, .inr (4, [.ref oP, .ref h1, .ref h2, .int lH'])), (h1, .inl (cI, 6, .inl fH1')), (h2, .inl (cI, 6, .inl fH2')), (oW, .inr (1, [.ref oC, .ref oK, .ref nw, .ref w1, .ref w2, .ref w3, .ref o7, .ref o8, .ref o9, .ref w4, .ref w5, .ref w6, .ref w7, .int ke, .int tl, .int fsh', .int wi, .int ri, .int fm, .int lm]))] hh9 → (0 ≤ lH'.toInt ∧ lH'.toInt ≤ 6) → (0 ≤ fsh'.toInt ∧ fsh'.toInt ≤ 1) → (F_list lH lH' r a b fH1 fH1' fH2 fH2') → (F_fs (-1) r fsh fsh') → PZ9) → PZ9) := by
  refine kMi_of (cc := cX11_list) (maxL := 3) (ret := (some .int)) (lv := [(0, .ref oX), (1, .int a), (2, .int b)]) (by decide +kernel) rfl rfl (Nat.le_of_ble_eq_true rfl) ?_
  intro p e s m below meth c A QQ ls hx hb hr hts hml hown hlocks hA hQQ hK hX hP hD hS hl
  have hown : s.vm.findClass RX11 = some m.cls := hown
  have hcf := k_cf hx hb hml hown hts
  have in_X11 : ∀ w ∈ wsX110, w ∈ wsX11_list := fun _ h => List.mem_cons_of_mem _ (List.mem_append_left _ (List.mem_append_left _ (List.mem_append_left _ (List.mem_append_left _ (List.mem_append_left _ (List.mem_append_left _ (List.mem_append_right _ (h))))))))
  replace g_ke := hid g_ke
  replace g_fm := hid g_fm
  replace g_lm := hid g_lm
  refine lv_aload_n hx hb dX11_list_0 rfl (lv_at hl 0 rfl) ?_
  refine lv_iconst (v := (-1)) hx hb dX11_list_1 (by decide) ?_
  refine va_put (D := (dC, dI)) (ci := 11) (v := .int (-1)) (ty := .int) (C := RX11) (T := TX11) (N := 12) hx hb hts in_X11 tyX11 tyX11_ok nmX11 hown hK hP hD hS 0 rfl rfl 11 (Nat.le_of_ble_eq_true rfl) (hts (.fieldLink RX11 90 "TextMender" "fault" "I") (List.mem_of_getElem? (i := 1) rfl)) (fun _ h9 => h9) rfl (tyX11_ok 11 (Nat.le_of_ble_eq_true rfl)) rfl rfl (Nat.le_of_ble_eq_true rfl) dX11_list_2 (kW (wn := [(oX, .inr (11, [.ref nT, .ref nL, .ref nM, .ref oC, .ref oP, .ref oH, .ref oK, .ref oG, .ref oR, .ref oQ, .ref oW, .int (-1)])), (oH, .inr (4, [.ref oP, .ref h1, .ref h2, .int lH])), (h1, .inl (cI, 6, .inl fH1)), (h2, .inl (cI, 6, .inl fH2)), (oW, .inr (1, [.ref oC, .ref oK, .ref nw, .ref w1, .ref w2, .ref w3, .ref o7, .ref o8, .ref o9, .ref w4, .ref w5, .ref w6, .ref w7, .int ke, .int tl, .int fsh, .int wi, .int ri, .int fm, .int lm]))]) rfl (fun H locs hPn hDn hSn => ?_))
  clear hP hD hS
  have hP := hPn
  have hD := hDn
  have hS := hSn
  clear hPn hDn hSn
  refine lv_iload_n hx hb dX11_list_5 rfl (lv_at hl 1 rfl) ?_
  refine kS_i (rest := []) hcf (m_X2_known l dC dI cI cS H.size a ) kc_X2_known gX11_list_X2_known rfl rfl ⟨Nat.le_of_ble_eq_true rfl, Nat.le_of_ble_eq_true rfl⟩ kX_t hK hP hD hS hA [] [0, 1, 2, 3, 4] rfl (by decide +kernel) rfl hl rfl (Nat.le_of_ble_eq_true rfl) dX11_list_6 ⟨Nat.le_of_ble_eq_true rfl, Nat.le_of_ble_eq_true rfl⟩ (fun r_1 H locs hB hJ hSn => ?_)
  refine hB _ (fun hPD9 hf1_0 hf1_1 => ?_)
  clear hB
  obtain ⟨hPn, hDn⟩ := hJ _ hPD9.1 hPD9.2 [(oX, .inr (11, [.ref nT, .ref nL, .ref nM, .ref oC, .ref oP, .ref oH, .ref oK, .ref oG, .ref oR, .ref oQ, .ref oW, .int (-1)])), (oH, .inr (4, [.ref oP, .ref h1, .ref h2, .int lH])), (h1, .inl (cI, 6, .inl fH1)), (h2, .inl (cI, 6, .inl fH2)), (oW, .inr (1, [.ref oC, .ref oK, .ref nw, .ref w1, .ref w2, .ref w3, .ref o7, .ref o8, .ref o9, .ref w4, .ref w5, .ref w6, .ref w7, .int ke, .int tl, .int fsh, .int wi, .int ri, .int fm, .int lm]))] rfl
  clear hP hD hS hJ hPD9
  have hP := hPn
  have hD := hDn
  have hS := hSn
  clear hPn hDn hSn
  refine lv_if_eq (tgt := 31) hx hb dX11_list_9 (by decide) (fun c_2 => ?_) (fun c_2 => ?_)
  · have tc_2 : r_1.toInt = 0 := v_eq c_2
    refine lv_iconst (v := (-1)) hx hb dX11_list_31 (by decide) ?_
    exact kl_i (v := (-1)) hQQ hx hb hr hlocks hS dX11_list_32 (fun PZ9 kZ9 => kZ9 (-1) lH fH1 fH2 fsh (⟨hP, hD⟩) (g_lH) (g_fsh) (Or.inr ⟨rfl, by unfold okc; omega, rfl, rfl, rfl⟩) (Or.inl ⟨by first | rfl | omega, rfl⟩))
  · have tc_2 : ¬ r_1.toInt = 0 := v_ne c_2
    refine lv_iload_n hx hb dX11_list_12 rfl (lv_at hl 2 rfl) ?_
    refine kS_i (rest := []) hcf (m_X2_known l dC dI cI cS H.size b ) kc_X2_known gX11_list_X2_known rfl rfl ⟨Nat.le_of_ble_eq_true rfl, Nat.le_of_ble_eq_true rfl⟩ kX_t hK hP hD hS hA [] [0, 1, 2, 3, 4] rfl (by decide +kernel) rfl hl rfl (Nat.le_of_ble_eq_true rfl) dX11_list_13 ⟨Nat.le_of_ble_eq_true rfl, Nat.le_of_ble_eq_true rfl⟩ (fun r_3 H locs hB hJ hSn => ?_)
    refine hB _ (fun hPD9 hf3_0 hf3_1 => ?_)
    clear hB
    obtain ⟨hPn, hDn⟩ := hJ _ hPD9.1 hPD9.2 [(oX, .inr (11, [.ref nT, .ref nL, .ref nM, .ref oC, .ref oP, .ref oH, .ref oK, .ref oG, .ref oR, .ref oQ, .ref oW, .int (-1)])), (oH, .inr (4, [.ref oP, .ref h1, .ref h2, .int lH])), (h1, .inl (cI, 6, .inl fH1)), (h2, .inl (cI, 6, .inl fH2)), (oW, .inr (1, [.ref oC, .ref oK, .ref nw, .ref w1, .ref w2, .ref w3, .ref o7, .ref o8, .ref o9, .ref w4, .ref w5, .ref w6, .ref w7, .int ke, .int tl, .int fsh, .int wi, .int ri, .int fm, .int lm]))] rfl
    clear hP hD hS hJ hPD9
    have hP := hPn
    have hD := hDn
    have hS := hSn
    clear hPn hDn hSn
    refine lv_if_eq (tgt := 31) hx hb dX11_list_16 (by decide) (fun c_4 => ?_) (fun c_4 => ?_)
    · have tc_4 : r_3.toInt = 0 := v_eq c_4
      refine lv_iconst (v := (-1)) hx hb dX11_list_31 (by decide) ?_
      exact kl_i (v := (-1)) hQQ hx hb hr hlocks hS dX11_list_32 (fun PZ9 kZ9 => kZ9 (-1) lH fH1 fH2 fsh (⟨hP, hD⟩) (g_lH) (g_fsh) (Or.inr ⟨rfl, by unfold okc; omega, rfl, rfl, rfl⟩) (Or.inl ⟨by first | rfl | omega, rfl⟩))
    · have tc_4 : ¬ r_3.toInt = 0 := v_ne c_4
      refine lv_aload_n hx hb dX11_list_19 rfl (lv_at hl 0 rfl) ?_
      refine va_get (D := (dC, dI)) (ci := 11) (v := .ref oH) (C := RX11) (T := TX11) (N := 12) hx hb hts in_X11 hown hK hP 0 rfl rfl 5 (Nat.le_of_ble_eq_true rfl) (hts (.fieldLink RX11 48 "TextMender" "harms" "LTextMender$Harms;") (List.mem_of_getElem? (i := 2) rfl)) (fun _ h9 => h9) rfl dX11_list_20 ?_
      refine lv_iload_n hx hb dX11_list_23 rfl (lv_at hl 1 rfl) ?_
      refine lv_iload_n hx hb dX11_list_24 rfl (lv_at hl 2 rfl) ?_
      refine kV_i (rest := []) (q0 := 0) (ci := 4) hcf (f_X4_tell l dC dI cI cS H.size oH oP h1 h2 lH fH1 fH2 a b (g_lH)) kc_X4_tell gX11_list_X4_tell rfl rfl rfl ⟨Nat.le_of_ble_eq_true rfl, Nat.le_of_ble_eq_true rfl⟩ kX_t hK hP hD hS hA [1, 2, 3] [0, 4] rfl (by decide +kernel) rfl rfl rfl hl rfl (Nat.le_of_ble_eq_true rfl) dX11_list_25 ⟨Nat.le_of_ble_eq_true rfl, Nat.le_of_ble_eq_true rfl⟩ (fun r_5 H locs hB hJ hSn => ?_)
      refine hB _ (fun lH_5 fH1_5 fH2_5 hPD9 hf5_0 hf5_1 hf5_2 hf5_3 => ?_)
      clear hB
      obtain ⟨hPn, hDn⟩ := hJ _ hPD9.1 hPD9.2 [(oX, .inr (11, [.ref nT, .ref nL, .ref nM, .ref oC, .ref oP, .ref oH, .ref oK, .ref oG, .ref oR, .ref oQ, .ref oW, .int (-1)])), (oW, .inr (1, [.ref oC, .ref oK, .ref nw, .ref w1, .ref w2, .ref w3, .ref o7, .ref o8, .ref o9, .ref w4, .ref w5, .ref w6, .ref w7, .int ke, .int tl, .int fsh, .int wi, .int ri, .int fm, .int lm])), (oH, .inr (4, [.ref oP, .ref h1, .ref h2, .int lH_5])), (h1, .inl (cI, 6, .inl fH1_5)), (h2, .inl (cI, 6, .inl fH2_5))] rfl
      clear hP hD hS hJ hPD9
      have hP := hPn
      have hD := hDn
      have hS := hSn
      clear hPn hDn hSn
      refine lv_if_ne (tgt := 33) hx hb dX11_list_28 (by decide) (fun c_6 => ?_) (fun c_6 => ?_)
      · have tc_6 : ¬ r_5.toInt = 0 := v_ne c_6
        refine lv_aload_n hx hb dX11_list_33 rfl (lv_at hl 0 rfl) ?_
        refine va_get (D := (dC, dI)) (ci := 11) (v := .ref oW) (C := RX11) (T := TX11) (N := 12) hx hb hts in_X11 hown hK hP 0 rfl rfl 10 (Nat.le_of_ble_eq_true rfl) (hts (.fieldLink RX11 86 "TextMender" "choiceBook" "LTextMender$Choices;") (List.mem_of_getElem? (i := 3) rfl)) (fun _ h9 => h9) rfl dX11_list_34 ?_
        refine kV_v (rest := []) (q0 := 0) (ci := 1) hcf (f_X1_forgetFreshness l dC dI cI cS H.size oW oC oK nw w1 w2 w3 o7 o8 o9 w4 w5 w6 w7 ke tl fsh wi ri fm lm (g_ke) (g_fsh) (g_fm) (g_lm)) kc_X1_forgetFreshness gX11_list_X1_forgetFreshness rfl rfl rfl ⟨Nat.le_of_ble_eq_true rfl, Nat.le_of_ble_eq_true rfl⟩ kX_t hK hP hD hS hA [1] [0, 2, 3, 4] rfl (by decide +kernel) rfl rfl rfl hl rfl (Nat.le_of_ble_eq_true rfl) dX11_list_37 ⟨Nat.le_of_ble_eq_true rfl, Nat.le_of_ble_eq_true rfl⟩ (fun H locs hB hJ hSn => ?_)
        refine hB _ (fun fsh_7 hPD9 hf7_0 hf7_1 => ?_)
        clear hB
        obtain ⟨hPn, hDn⟩ := hJ _ hPD9.1 hPD9.2 [(oX, .inr (11, [.ref nT, .ref nL, .ref nM, .ref oC, .ref oP, .ref oH, .ref oK, .ref oG, .ref oR, .ref oQ, .ref oW, .int (-1)])), (oH, .inr (4, [.ref oP, .ref h1, .ref h2, .int lH_5])), (h1, .inl (cI, 6, .inl fH1_5)), (h2, .inl (cI, 6, .inl fH2_5)), (oW, .inr (1, [.ref oC, .ref oK, .ref nw, .ref w1, .ref w2, .ref w3, .ref o7, .ref o8, .ref o9, .ref w4, .ref w5, .ref w6, .ref w7, .int ke, .int tl, .int fsh_7, .int wi, .int ri, .int fm, .int lm]))] rfl
        clear hP hD hS hJ hPD9
        have hP := hPn
        have hD := hDn
        have hS := hSn
        clear hPn hDn hSn
        refine lv_aload_n hx hb dX11_list_40 rfl (lv_at hl 0 rfl) ?_
        refine va_get (D := (dC, dI)) (ci := 11) (v := .ref oH) (C := RX11) (T := TX11) (N := 12) hx hb hts in_X11 hown hK hP 0 rfl rfl 5 (Nat.le_of_ble_eq_true rfl) (hts (.fieldLink RX11 48 "TextMender" "harms" "LTextMender$Harms;") (List.mem_of_getElem? (i := 2) rfl)) (fun _ h9 => h9) rfl dX11_list_41 ?_
        refine kV_i (rest := []) (q0 := 0) (ci := 4) hcf (m_X4_length l dC dI cI cS H.size oH oP h1 h2 lH_5 (hf5_0)) kc_X4_length gX11_list_X4_length rfl rfl rfl ⟨Nat.le_of_ble_eq_true rfl, Nat.le_of_ble_eq_true rfl⟩ kX_t hK hP hD hS hA [1] [0, 2, 3, 4] rfl (by decide +kernel) rfl rfl rfl hl rfl (Nat.le_of_ble_eq_true rfl) dX11_list_44 ⟨Nat.le_of_ble_eq_true rfl, Nat.le_of_ble_eq_true rfl⟩ (fun r_8 H locs hB hJ hSn => ?_)
        refine hB _ (fun hPD9 hf8_0 => ?_)
        clear hB
        obtain ⟨hPn, hDn⟩ := hJ _ hPD9.1 hPD9.2 [(oX, .inr (11, [.ref nT, .ref nL, .ref nM, .ref oC, .ref oP, .ref oH, .ref oK, .ref oG, .ref oR, .ref oQ, .ref oW, .int (-1)])), (h1, .inl (cI, 6, .inl fH1_5)), (h2, .inl (cI, 6, .inl fH2_5)), (oW, .inr (1, [.ref oC, .ref oK, .ref nw, .ref w1, .ref w2, .ref w3, .ref o7, .ref o8, .ref o9, .ref w4, .ref w5, .ref w6, .ref w7, .int ke, .int tl, .int fsh_7, .int wi, .int ri, .int fm, .int lm])), (oH, .inr (4, [.ref oP, .ref h1, .ref h2, .int lH_5]))] rfl
        clear hP hD hS hJ hPD9
        have hP := hPn
        have hD := hDn
        have hS := hSn
        clear hPn hDn hSn
        rw [hf8_0]
        refine lv_iconst (v := 1) hx hb dX11_list_47 (by decide) ?_
        refine lv_isub hx hb dX11_list_48 ?_
        refine lv_topi (fun x_9 ex_9 => ?_)
        have tx_9 : x_9.toInt = lH_5.toInt - 1 := v_subR (l2 := 1) (h2 := 1) ex_9 hf5_0 (by decide) (by decide) (by decide)
        exact kl_i (v := x_9) hQQ hx hb hr hlocks hS dX11_list_49 (fun PZ9 kZ9 => kZ9 (-1) lH_5 fH1_5 fH2_5 fsh_7 (kPD_sub hP hD [0, 4, 1, 2, 3] (by decide +kernel) rfl) (hf5_0) (hf7_0) (F_list_of hf5_3 (by unfold okc; omega) (by unfold okc; omega) (fun _ => by omega) (fun z => by exfalso; have z9 := v_eq z; have e9 : (0 : Int32).toInt = 0 := rfl; omega)) (Or.inr ⟨by first | decide | omega, hf7_1⟩))
      · have tc_6 : r_5.toInt = 0 := v_eq c_6
        refine lv_iconst (v := (-1)) hx hb dX11_list_31 (by decide) ?_
        exact kl_i (v := (-1)) hQQ hx hb hr hlocks hS dX11_list_32 (fun PZ9 kZ9 => kZ9 (-1) lH_5 fH1_5 fH2_5 fsh (kPD_sub hP hD [0, 2, 3, 4, 1] (by decide +kernel) rfl) (hf5_0) (g_fsh) (F_list_of hf5_3 (by unfold okc; omega) (by unfold okc; omega) (fun z => by exfalso; have z9 := v_eq z; have e9 : (1 : Int32).toInt = 1 := rfl; omega) (fun _ => rfl)) (Or.inl ⟨by first | rfl | omega, rfl⟩))

set_option maxHeartbeats 40000000 in
set_option maxRecDepth 100000 in
theorem f_X11_unlist (l : Launch) (dC : Nat → ClassId) (dI : Nat → Nat → Nat) (cI cS : ClassId) (sz : Nat) (oX : Nat) (nT : Nat) (nL : Nat) (nM : Nat) (oC : Nat) (oP : Nat) (oH : Nat) (oK : Nat) (oG : Nat) (oR : Nat) (oQ : Nat) (oW : Nat) (h1 : Nat) (h2 : Nat) (nw : Nat) (w1 : Nat) (w2 : Nat) (w3 : Nat) (o7 : Nat) (o8 : Nat) (o9 : Nat) (w4 : Nat) (w5 : Nat) (w6 : Nat) (w7 : Nat) (fa : Int32) (lH : Int32) (ke : Int32) (tl : Int32) (fsh : Int32) (wi : Int32) (ri : Int32) (fm : Int32) (lm : Int32) (g_lH : 0 ≤ lH.toInt ∧ lH.toInt ≤ 6) (g_ke : 0 ≤ ke.toInt ∧ ke.toInt ≤ 200) (g_fsh : 0 ≤ fsh.toInt ∧ fsh.toInt ≤ 1) (g_fm : -1 ≤ fm.toInt ∧ fm.toInt ≤ 800) (g_lm : -1 ≤ lm.toInt ∧ lm.toInt ≤ 800) : kMi l yX11_unlist wsX11_unlist ({ frames := 1, cells := 0, slots := 0, locals := 20 } : Room) [.ref oX] sz (dC, dI) vwCl [(cI, .int), (cS, .short)] [(oX, .inr (11, [.ref nT, .ref nL, .ref nM, .ref oC, .ref oP, .ref oH, .ref oK, .ref oG, .ref oR, .ref oQ, .ref oW, .int fa])), (oH, .inr (4, [.ref oP, .ref h1, .ref h2, .int lH])), (oW, .inr (1, [.ref oC, .ref oK, .ref nw, .ref w1, .ref w2, .ref w3, .ref o7, .ref o8, .ref o9, .ref w4, .ref w5, .ref w6, .ref w7, .int ke, .int tl, .int fsh, .int wi, .int ri, .int fm, .int lm]))] (fun _ => True) 0 0 (fun (A : Nat → Prop) (r : Int32) (hh9 : Heap) => ∀ PZ9 : Prop, (∀ (lH' : Int32) (fsh' : Int32), kPD (dC, dI) vwCl A [(oX, .inr (11, [.ref nT, .ref nL, .ref nM, .ref oC, .ref oP, .ref oH, .ref oK, .ref oG, .ref oR, .ref oQ, .ref oW, .int fa])), (oH, .inr (4, [.ref oP, .ref h1, .ref h2, .int lH'])), (oW, .inr (1, [.ref oC, .ref oK, .ref nw, .ref w1, .ref w2, .ref w3, .ref o7, .ref o8, .ref o9, .ref w4, .ref w5, .ref w6, .ref w7, .int ke, .int tl, .int fsh', .int wi, .int ri, .int fm, .int lm]))] hh9 → (0 ≤ lH'.toInt ∧ lH'.toInt ≤ 6) → (0 ≤ fsh'.toInt ∧ fsh'.toInt ≤ 1) → (r = lH) → (lH'.toInt = 0) → (fsh' = 0) → PZ9) → PZ9) := by
  refine kMi_of (cc := cX11_unlist) (maxL := 2) (ret := (some .int)) (lv := [(0, .ref oX)]) (by decide +kernel) rfl rfl (Nat.le_of_ble_eq_true rfl) ?_
  intro p e s m below meth c A QQ ls hx hb hr hts hml hown hlocks hA hQQ hK hX hP hD hS hl
  have hown : s.vm.findClass RX11 = some m.cls := hown
  have hcf := k_cf hx hb hml hown hts
  have in_X11 : ∀ w ∈ wsX110, w ∈ wsX11_unlist := fun _ h => List.mem_cons_of_mem _ (List.mem_append_left _ (List.mem_append_left _ (List.mem_append_left _ (List.mem_append_left _ (List.mem_append_left _ (List.mem_append_right _ (h)))))))
  replace g_lH := hid g_lH
  replace g_ke := hid g_ke
  replace g_fsh := hid g_fsh
  replace g_fm := hid g_fm
  replace g_lm := hid g_lm
  refine lv_aload_n hx hb dX11_unlist_0 rfl (lv_at hl 0 rfl) ?_
  refine va_get (D := (dC, dI)) (ci := 11) (v := .ref oH) (C := RX11) (T := TX11) (N := 12) hx hb hts in_X11 hown hK hP 0 rfl rfl 5 (Nat.le_of_ble_eq_true rfl) (hts (.fieldLink RX11 48 "TextMender" "harms" "LTextMender$Harms;") (List.mem_of_getElem? (i := 1) rfl)) (fun _ h9 => h9) rfl dX11_unlist_1 ?_
  refine kV_i (rest := []) (q0 := 0) (ci := 4) hcf (m_X4_length l dC dI cI cS s.heap.size oH oP h1 h2 lH (g_lH)) kc_X4_length gX11_unlist_X4_length rfl rfl rfl ⟨Nat.le_of_ble_eq_true rfl, Nat.le_of_ble_eq_true rfl⟩ kX_t hK hP hD hS hA [1] [0, 2] rfl (by decide +kernel) rfl rfl rfl hl rfl (Nat.le_of_ble_eq_true rfl) dX11_unlist_4 ⟨Nat.le_of_ble_eq_true rfl, Nat.le_of_ble_eq_true rfl⟩ (fun r_1 H locs hB hJ hSn => ?_)
  refine hB _ (fun hPD9 hf1_0 => ?_)
  clear hB
  obtain ⟨hPn, hDn⟩ := hJ _ hPD9.1 hPD9.2 [(oX, .inr (11, [.ref nT, .ref nL, .ref nM, .ref oC, .ref oP, .ref oH, .ref oK, .ref oG, .ref oR, .ref oQ, .ref oW, .int fa])), (oW, .inr (1, [.ref oC, .ref oK, .ref nw, .ref w1, .ref w2, .ref w3, .ref o7, .ref o8, .ref o9, .ref w4, .ref w5, .ref w6, .ref w7, .int ke, .int tl, .int fsh, .int wi, .int ri, .int fm, .int lm])), (oH, .inr (4, [.ref oP, .ref h1, .ref h2, .int lH]))] rfl
  clear hP hD hS hJ hPD9
  have hP := hPn
  have hD := hDn
  have hS := hSn
  clear hPn hDn hSn
  rw [hf1_0]
  refine lv_istore_n (lv' := [(1, .int lH), (0, .ref oX)]) hx hb dX11_unlist_7 rfl hl (by decide) rfl (fun ls hl => ?_)
  refine lv_aload_n hx hb dX11_unlist_8 rfl (lv_at hl 1 rfl) ?_
  refine va_get (D := (dC, dI)) (ci := 11) (v := .ref oH) (C := RX11) (T := TX11) (N := 12) hx hb hts in_X11 hown hK hP 0 rfl rfl 5 (Nat.le_of_ble_eq_true rfl) (hts (.fieldLink RX11 48 "TextMender" "harms" "LTextMender$Harms;") (List.mem_of_getElem? (i := 1) rfl)) (fun _ h9 => h9) rfl dX11_unlist_9 ?_
  refine kV_v (rest := []) (q0 := 0) (ci := 4) hcf (m_X4_empty l dC dI cI cS H.size oH oP h1 h2 lH (g_lH)) kc_X4_empty gX11_unlist_X4_empty rfl rfl rfl ⟨Nat.le_of_ble_eq_true rfl, Nat.le_of_ble_eq_true rfl⟩ kX_t hK hP hD hS hA [2] [0, 1] rfl (by decide +kernel) rfl rfl rfl hl rfl (Nat.le_of_ble_eq_true rfl) dX11_unlist_12 ⟨Nat.le_of_ble_eq_true rfl, Nat.le_of_ble_eq_true rfl⟩ (fun H locs hB hJ hSn => ?_)
  refine hB _ (fun lH_2 hPD9 hf2_0 hf2_1 => ?_)
  clear hB
  obtain ⟨hPn, hDn⟩ := hJ _ hPD9.1 hPD9.2 [(oX, .inr (11, [.ref nT, .ref nL, .ref nM, .ref oC, .ref oP, .ref oH, .ref oK, .ref oG, .ref oR, .ref oQ, .ref oW, .int fa])), (oW, .inr (1, [.ref oC, .ref oK, .ref nw, .ref w1, .ref w2, .ref w3, .ref o7, .ref o8, .ref o9, .ref w4, .ref w5, .ref w6, .ref w7, .int ke, .int tl, .int fsh, .int wi, .int ri, .int fm, .int lm])), (oH, .inr (4, [.ref oP, .ref h1, .ref h2, .int lH_2]))] rfl
  clear hP hD hS hJ hPD9
  have hP := hPn
  have hD := hDn
  have hS := hSn
  clear hPn hDn hSn
  have ha2 : lH_2.toInt = 0 := by rw [hf2_1]; rfl
  refine lv_aload_n hx hb dX11_unlist_15 rfl (lv_at hl 1 rfl) ?_
  refine va_get (D := (dC, dI)) (ci := 11) (v := .ref oW) (C := RX11) (T := TX11) (N := 12) hx hb hts in_X11 hown hK hP 0 rfl rfl 10 (Nat.le_of_ble_eq_true rfl) (hts (.fieldLink RX11 86 "TextMender" "choiceBook" "LTextMender$Choices;") (List.mem_of_getElem? (i := 2) rfl)) (fun _ h9 => h9) rfl dX11_unlist_16 ?_
  refine kV_v (rest := []) (q0 := 0) (ci := 1) hcf (f_X1_forgetFreshness l dC dI cI cS H.size oW oC oK nw w1 w2 w3 o7 o8 o9 w4 w5 w6 w7 ke tl fsh wi ri fm lm (g_ke) (g_fsh) (g_fm) (g_lm)) kc_X1_forgetFreshness gX11_unlist_X1_forgetFreshness rfl rfl rfl ⟨Nat.le_of_ble_eq_true rfl, Nat.le_of_ble_eq_true rfl⟩ kX_t hK hP hD hS hA [1] [0, 2] rfl (by decide +kernel) rfl rfl rfl hl rfl (Nat.le_of_ble_eq_true rfl) dX11_unlist_19 ⟨Nat.le_of_ble_eq_true rfl, Nat.le_of_ble_eq_true rfl⟩ (fun H locs hB hJ hSn => ?_)
  refine hB _ (fun fsh_3 hPD9 hf3_0 hf3_1 => ?_)
  clear hB
  obtain ⟨hPn, hDn⟩ := hJ _ hPD9.1 hPD9.2 [(oX, .inr (11, [.ref nT, .ref nL, .ref nM, .ref oC, .ref oP, .ref oH, .ref oK, .ref oG, .ref oR, .ref oQ, .ref oW, .int fa])), (oH, .inr (4, [.ref oP, .ref h1, .ref h2, .int lH_2])), (oW, .inr (1, [.ref oC, .ref oK, .ref nw, .ref w1, .ref w2, .ref w3, .ref o7, .ref o8, .ref o9, .ref w4, .ref w5, .ref w6, .ref w7, .int ke, .int tl, .int fsh_3, .int wi, .int ri, .int fm, .int lm]))] rfl
  clear hP hD hS hJ hPD9
  have hP := hPn
  have hD := hDn
  have hS := hSn
  clear hPn hDn hSn
  refine lv_iload_n hx hb dX11_unlist_22 rfl (lv_at hl 0 rfl) ?_
  exact kl_i (v := lH) hQQ hx hb hr hlocks hS dX11_unlist_23 (fun PZ9 kZ9 => kZ9 lH_2 fsh_3 (⟨hP, hD⟩) (hf2_0) (hf3_0) (rfl) (by show lH_2.toInt = 0; omega) (hf3_1))

set_option maxHeartbeats 40000000 in
set_option maxRecDepth 100000 in
theorem f_X12_list (l : Launch) (dC : Nat → ClassId) (dI : Nat → Nat → Nat) (cI cS : ClassId) (sz : Nat) (oM : Nat) (mT : Nat) (mS : Nat) (mX : Nat) (mL : Nat) (mB : Nat) (mD : Nat) (m1 : Nat) (m2 : Nat) (mR : Nat) (x1 : Nat) (x2 : Nat) (x3 : Nat) (mH : Nat) (mY : Nat) (mE : Nat) (mW : Nat) (mO : Nat) (y1 : Nat) (y2 : Nat) (y3 : Nat) (y4 : Nat) (mZ : Nat) (zt : Int32) (zp : Int32) (zf : Int32) (zh : Int32) (zr : Int32) (zc : Int32) (zy : Int32) (za : Int32) (zb : Int32) (zs : Int32) (zq : Int32) (zw : Int32) (ze : Int32) (zn : Int32) (zm : Int32) (zl : Int32) (zk : Int32) (zd : Int32) (e1 : Nat → Int32) (e2 : Nat → Int32) (a : Int32) (b : Int32) (g_zt : 0 ≤ zt.toInt ∧ zt.toInt ≤ 900) (g_zp : 0 ≤ zp.toInt ∧ zp.toInt ≤ 20) (g_zf : 0 ≤ zf.toInt ∧ zf.toInt ≤ 19) (g_zh : 0 ≤ zh.toInt ∧ zh.toInt ≤ 6) (g_zr : 0 ≤ zr.toInt ∧ zr.toInt ≤ 258) (g_zc : 0 ≤ zc.toInt ∧ zc.toInt ≤ 300) (g_zy : 0 ≤ zy.toInt ∧ zy.toInt ≤ 65536) (g_za : 0 ≤ za.toInt ∧ za.toInt ≤ 5) (g_zb : 0 ≤ zb.toInt ∧ zb.toInt ≤ 5) (g_zs : 0 ≤ zs.toInt ∧ zs.toInt ≤ 2000000) (g_zq : -1 ≤ zq.toInt ∧ zq.toInt ≤ 2000000) (g_zn : 0 ≤ zn.toInt ∧ zn.toInt ≤ 2600) (g_zm : 0 ≤ zm.toInt ∧ zm.toInt ≤ 2600) (g_zk : 0 ≤ zk.toInt ∧ zk.toInt ≤ 300) (g_e1 : rg 0 5 e1) (g_e2 : rg 0 5 e2) (hzs : zs.toInt ≤ 1000000) : kMi l yX12_list wsX12_list ({ frames := 1, cells := 0, slots := 0, locals := 20 } : Room) [.ref oM, .int a, .int b] sz (dC, dI) vwCl [(cI, .int), (cS, .short)] [(oM, .inr (12, [.ref mT, .int zt, .ref mS, .ref mX, .int zp, .int zf, .ref mL, .ref mB, .ref mD, .ref m1, .ref m2, .int zh, .ref mR, .int zr, .ref x1, .ref x2, .ref x3, .int zc, .ref mH, .int zy, .int za, .int zb, .int zs, .int zq, .int zw, .int ze, .ref mY, .int zn, .ref mE, .int zm, .int zl, .ref mW, .int zk, .ref mO, .int zd, .ref y1, .ref y2, .ref y3, .ref y4, .ref mZ])), (m1, .inl (cI, 6, .inl e1)), (m2, .inl (cI, 6, .inl e2))] (fun _ => True) 0 0 (fun (A : Nat → Prop) (r : Int32) (hh9 : Heap) => ∀ PZ9 : Prop, (∀ (ze' : Int32) (zw' : Int32) (zh' : Int32) (e1' : Nat → Int32) (e2' : Nat → Int32) (zs' : Int32), kPD (dC, dI) vwCl A [(oM, .inr (12, [.ref mT, .int zt, .ref mS, .ref mX, .int zp, .int zf, .ref mL, .ref mB, .ref mD, .ref m1, .ref m2, .int zh', .ref mR, .int zr, .ref x1, .ref x2, .ref x3, .int zc, .ref mH, .int zy, .int za, .int zb, .int zs', .int zq, .int zw', .int ze', .ref mY, .int zn, .ref mE, .int zm, .int zl, .ref mW, .int zk, .ref mO, .int zd, .ref y1, .ref y2, .ref y3, .ref y4, .ref mZ])), (m1, .inl (cI, 6, .inl e1')), (m2, .inl (cI, 6, .inl e2'))] hh9 → (0 ≤ zh'.toInt ∧ zh'.toInt ≤ 6) → (rg 0 5 e1') → (rg 0 5 e2') → (0 ≤ zs'.toInt ∧ zs'.toInt ≤ 2000000) → (zs'.toInt ≤ zs.toInt + 1 ∧ zs.toInt ≤ zs'.toInt) → (F_list zh zh' r a b e1 e1' e2 e2') → (F_zs (-1) r zs zs') → PZ9) → PZ9) := by
  refine kMi_of (cc := cX12_list) (maxL := 4) (ret := (some .int)) (lv := [(0, .ref oM), (1, .int a), (2, .int b)]) (by decide +kernel) rfl rfl (Nat.le_of_ble_eq_true rfl) ?_
  intro p e s m below meth c A QQ ls hx hb hr hts hml hown hlocks hA hQQ hK hX hP hD hS hl
  have hown : s.vm.findClass RX12 = some m.cls := hown
  have hcf := k_cf hx hb hml hown hts
  have in_X12 : ∀ w ∈ wsX120, w ∈ wsX12_list := fun _ h => List.mem_cons_of_mem _ (List.mem_append_left _ (List.mem_append_right _ (h)))
  replace g_zt := hid g_zt
  replace g_zp := hid g_zp
  replace g_zf := hid g_zf
  replace g_zr := hid g_zr
  replace g_zc := hid g_zc
  replace g_zy := hid g_zy
  replace g_za := hid g_za
  replace g_zb := hid g_zb
  replace g_zq := hid g_zq
  replace g_zn := hid g_zn
  replace g_zm := hid g_zm
  replace g_zk := hid g_zk
  refine lv_aload_n hx hb dX12_list_0 rfl (lv_at hl 0 rfl) ?_
  refine lv_iconst (v := 0) hx hb dX12_list_1 (by decide) ?_
  refine va_put (D := (dC, dI)) (ci := 12) (v := .int 0) (ty := .int) (C := RX12) (T := TX12) (N := 40) hx hb hts in_X12 tyX12 tyX12_ok nmX12 hown hK hP hD hS 0 rfl rfl 25 (Nat.le_of_ble_eq_true rfl) (hts (.fieldLink RX12 85 "TextMenderModel" "thrown" "I") (List.mem_of_getElem? (i := 1) rfl)) (fun _ h9 => h9) rfl (tyX12_ok 25 (Nat.le_of_ble_eq_true rfl)) rfl rfl (Nat.le_of_ble_eq_true rfl) dX12_list_2 (kW (wn := [(oM, .inr (12, [.ref mT, .int zt, .ref mS, .ref mX, .int zp, .int zf, .ref mL, .ref mB, .ref mD, .ref m1, .ref m2, .int zh, .ref mR, .int zr, .ref x1, .ref x2, .ref x3, .int zc, .ref mH, .int zy, .int za, .int zb, .int zs, .int zq, .int zw, .int 0, .ref mY, .int zn, .ref mE, .int zm, .int zl, .ref mW, .int zk, .ref mO, .int zd, .ref y1, .ref y2, .ref y3, .ref y4, .ref mZ])), (m1, .inl (cI, 6, .inl e1)), (m2, .inl (cI, 6, .inl e2))]) rfl (fun H locs hPn hDn hSn => ?_))
  clear hP hD hS
  have hP := hPn
  have hD := hDn
  have hS := hSn
  clear hPn hDn hSn
  refine lv_aload_n hx hb dX12_list_5 rfl (lv_at hl 0 rfl) ?_
  refine lv_iconst (v := (-1)) hx hb dX12_list_6 (by decide) ?_
  refine va_put (D := (dC, dI)) (ci := 12) (v := .int (-1)) (ty := .int) (C := RX12) (T := TX12) (N := 40) hx hb hts in_X12 tyX12 tyX12_ok nmX12 hown hK hP hD hS 0 rfl rfl 24 (Nat.le_of_ble_eq_true rfl) (hts (.fieldLink RX12 55 "TextMenderModel" "where" "I") (List.mem_of_getElem? (i := 2) rfl)) (fun _ h9 => h9) rfl (tyX12_ok 24 (Nat.le_of_ble_eq_true rfl)) rfl rfl (Nat.le_of_ble_eq_true rfl) dX12_list_7 (kW (wn := [(oM, .inr (12, [.ref mT, .int zt, .ref mS, .ref mX, .int zp, .int zf, .ref mL, .ref mB, .ref mD, .ref m1, .ref m2, .int zh, .ref mR, .int zr, .ref x1, .ref x2, .ref x3, .int zc, .ref mH, .int zy, .int za, .int zb, .int zs, .int zq, .int (-1), .int 0, .ref mY, .int zn, .ref mE, .int zm, .int zl, .ref mW, .int zk, .ref mO, .int zd, .ref y1, .ref y2, .ref y3, .ref y4, .ref mZ])), (m1, .inl (cI, 6, .inl e1)), (m2, .inl (cI, 6, .inl e2))]) rfl (fun H locs hPn hDn hSn => ?_))
  clear hP hD hS
  have hP := hPn
  have hD := hDn
  have hS := hSn
  clear hPn hDn hSn
  refine lv_iload_n hx hb dX12_list_10 rfl (lv_at hl 1 rfl) ?_
  refine kS_i (rest := []) hcf (m_X12_isCode l dC dI cI cS H.size a ) kc_X12_isCode gX12_list_X12_isCode rfl rfl ⟨Nat.le_of_ble_eq_true rfl, Nat.le_of_ble_eq_true rfl⟩ kX_t hK hP hD hS hA [] [0, 1, 2] rfl (by decide +kernel) rfl hl rfl (Nat.le_of_ble_eq_true rfl) dX12_list_11 ⟨Nat.le_of_ble_eq_true rfl, Nat.le_of_ble_eq_true rfl⟩ (fun r_1 H locs hB hJ hSn => ?_)
  refine hB _ (fun hPD9 hf1_0 hf1_1 => ?_)
  clear hB
  obtain ⟨hPn, hDn⟩ := hJ _ hPD9.1 hPD9.2 [(oM, .inr (12, [.ref mT, .int zt, .ref mS, .ref mX, .int zp, .int zf, .ref mL, .ref mB, .ref mD, .ref m1, .ref m2, .int zh, .ref mR, .int zr, .ref x1, .ref x2, .ref x3, .int zc, .ref mH, .int zy, .int za, .int zb, .int zs, .int zq, .int (-1), .int 0, .ref mY, .int zn, .ref mE, .int zm, .int zl, .ref mW, .int zk, .ref mO, .int zd, .ref y1, .ref y2, .ref y3, .ref y4, .ref mZ])), (m1, .inl (cI, 6, .inl e1)), (m2, .inl (cI, 6, .inl e2))] rfl
  clear hP hD hS hJ hPD9
  have hP := hPn
  have hD := hDn
  have hS := hSn
  clear hPn hDn hSn
  refine lv_if_eq (tgt := 33) hx hb dX12_list_14 (by decide) (fun c_2 => ?_) (fun c_2 => ?_)
  · have tc_2 : r_1.toInt = 0 := v_eq c_2
    refine lv_iconst (v := (-1)) hx hb dX12_list_33 (by decide) ?_
    exact kl_i (v := (-1)) hQQ hx hb hr hlocks hS dX12_list_34 (fun PZ9 kZ9 => kZ9 0 (-1) zh e1 e2 zs (⟨hP, hD⟩) (g_zh) (g_e1) (g_e2) (g_zs) (by show zs.toInt ≤ zs.toInt + 1 ∧ zs.toInt ≤ zs.toInt; omega) (Or.inr ⟨rfl, by unfold okc; omega, rfl, rfl, rfl⟩) (by first | exact Or.inl ⟨by first | rfl | omega, rfl⟩ | exact Or.inr ⟨by first | decide | omega, by omega⟩))
  · have tc_2 : ¬ r_1.toInt = 0 := v_ne c_2
    refine lv_iload_n hx hb dX12_list_17 rfl (lv_at hl 2 rfl) ?_
    refine kS_i (rest := []) hcf (m_X12_isCode l dC dI cI cS H.size b ) kc_X12_isCode gX12_list_X12_isCode rfl rfl ⟨Nat.le_of_ble_eq_true rfl, Nat.le_of_ble_eq_true rfl⟩ kX_t hK hP hD hS hA [] [0, 1, 2] rfl (by decide +kernel) rfl hl rfl (Nat.le_of_ble_eq_true rfl) dX12_list_18 ⟨Nat.le_of_ble_eq_true rfl, Nat.le_of_ble_eq_true rfl⟩ (fun r_3 H locs hB hJ hSn => ?_)
    refine hB _ (fun hPD9 hf3_0 hf3_1 => ?_)
    clear hB
    obtain ⟨hPn, hDn⟩ := hJ _ hPD9.1 hPD9.2 [(oM, .inr (12, [.ref mT, .int zt, .ref mS, .ref mX, .int zp, .int zf, .ref mL, .ref mB, .ref mD, .ref m1, .ref m2, .int zh, .ref mR, .int zr, .ref x1, .ref x2, .ref x3, .int zc, .ref mH, .int zy, .int za, .int zb, .int zs, .int zq, .int (-1), .int 0, .ref mY, .int zn, .ref mE, .int zm, .int zl, .ref mW, .int zk, .ref mO, .int zd, .ref y1, .ref y2, .ref y3, .ref y4, .ref mZ])), (m1, .inl (cI, 6, .inl e1)), (m2, .inl (cI, 6, .inl e2))] rfl
    clear hP hD hS hJ hPD9
    have hP := hPn
    have hD := hDn
    have hS := hSn
    clear hPn hDn hSn
    refine lv_if_eq (tgt := 33) hx hb dX12_list_21 (by decide) (fun c_4 => ?_) (fun c_4 => ?_)
    · have tc_4 : r_3.toInt = 0 := v_eq c_4
      refine lv_iconst (v := (-1)) hx hb dX12_list_33 (by decide) ?_
      exact kl_i (v := (-1)) hQQ hx hb hr hlocks hS dX12_list_34 (fun PZ9 kZ9 => kZ9 0 (-1) zh e1 e2 zs (⟨hP, hD⟩) (g_zh) (g_e1) (g_e2) (g_zs) (by show zs.toInt ≤ zs.toInt + 1 ∧ zs.toInt ≤ zs.toInt; omega) (Or.inr ⟨rfl, by unfold okc; omega, rfl, rfl, rfl⟩) (by first | exact Or.inl ⟨by first | rfl | omega, rfl⟩ | exact Or.inr ⟨by first | decide | omega, by omega⟩))
    · have tc_4 : ¬ r_3.toInt = 0 := v_ne c_4
      refine lv_aload_n hx hb dX12_list_24 rfl (lv_at hl 0 rfl) ?_
      refine va_get (D := (dC, dI)) (ci := 12) (v := .int zh) (C := RX12) (T := TX12) (N := 40) hx hb hts in_X12 hown hK hP 0 rfl rfl 11 (Nat.le_of_ble_eq_true rfl) (hts (.fieldLink RX12 161 "TextMenderModel" "harms" "I") (List.mem_of_getElem? (i := 3) rfl)) (fun _ h9 => h9) rfl dX12_list_25 ?_
      refine lv_bipush (v := 6) hx hb dX12_list_28 (by decide) ?_
      refine lv_icmp_ne (tgt := 35) hx hb dX12_list_30 (by decide) (fun c_5 => ?_) (fun c_5 => ?_)
      · have tc_5 : ¬ zh.toInt = 6 := v_ne c_5
        refine lv_iconst (v := 0) hx hb dX12_list_35 (by decide) ?_
        refine lv_istore_n (lv' := [(3, .int 0), (0, .ref oM), (1, .int a), (2, .int b)]) hx hb dX12_list_36 rfl hl (by decide) rfl (fun ls hl => ?_)
        have LOOP_37 : ∀ (k_37 : Nat) (k : Int32) (H : Heap) (locs : List Loc) (ls : Array Slot), MSd (6 - k.toInt : Int) k_37 → (0 ≤ k.toInt ∧ k.toInt ≤ 6) → (noP k.toInt a b e1 e2) → (k.toInt ≤ zh.toInt) → va_P (dC, dI) vwCl [(oM, .inr (12, [.ref mT, .int zt, .ref mS, .ref mX, .int zp, .int zf, .ref mL, .ref mB, .ref mD, .ref m1, .ref m2, .int zh, .ref mR, .int zr, .ref x1, .ref x2, .ref x3, .int zc, .ref mH, .int zy, .int za, .int zb, .int zs, .int zq, .int (-1), .int 0, .ref mY, .int zn, .ref mE, .int zm, .int zl, .ref mW, .int zk, .ref mO, .int zd, .ref y1, .ref y2, .ref y3, .ref y4, .ref mZ])), (m1, .inl (cI, 6, .inl e1)), (m2, .inl (cI, 6, .inl e2))] H → va_D A [(oM, .inr (12, [.ref mT, .int zt, .ref mS, .ref mX, .int zp, .int zf, .ref mL, .ref mB, .ref mD, .ref m1, .ref m2, .int zh, .ref mR, .int zr, .ref x1, .ref x2, .ref x3, .int zc, .ref mH, .int zy, .int za, .int zb, .int zs, .int zq, .int (-1), .int 0, .ref mY, .int zn, .ref mE, .int zm, .int zl, .ref mW, .int zk, .ref mO, .int zd, .ref y1, .ref y2, .ref y3, .ref y4, .ref mZ])), (m1, .inl (cI, 6, .inl e1)), (m2, .inl (cI, 6, .inl e2))] → va_S A s.heap H locs → lv_has ls 4 [(3, .int k), (0, .ref oM), (1, .int a), (2, .int b)] → W p l e (headSpec wsX12_list ({ frames := 1, cells := 0, slots := 0, locals := 20 } : Room)).room s m ([.ref oM, .int a, .int b] : List Value).toArray below meth c H locs 0 0 (MQ below QQ ([.ref oM, .int a, .int b] : List Value).toArray s 0 0 A) (F0 m 37 ls []) := by
          clear hP hD hS hl
          intro k_37
          induction k_37 with
          | zero =>
            intro k H locs ls hm_37 g_k hno hkz hP hD hS hl
            exact ms_0 hm_37
          | succ k_37 ih_37 =>
            intro k H locs ls hm_37 g_k hno hkz hP hD hS hl
            refine lv_iload_n hx hb dX12_list_37 rfl (lv_at hl 0 rfl) ?_
            refine lv_aload_n hx hb dX12_list_38 rfl (lv_at hl 1 rfl) ?_
            refine va_get (D := (dC, dI)) (ci := 12) (v := .int zh) (C := RX12) (T := TX12) (N := 40) hx hb hts in_X12 hown hK hP 0 rfl rfl 11 (Nat.le_of_ble_eq_true rfl) (hts (.fieldLink RX12 161 "TextMenderModel" "harms" "I") (List.mem_of_getElem? (i := 3) rfl)) (fun _ h9 => h9) rfl dX12_list_39 ?_
            refine lv_icmp_ge (tgt := 73) hx hb dX12_list_42 (by decide) (fun c_6 => ?_) (fun c_6 => ?_)
            · have tc_6 : zh.toInt ≤ k.toInt := v_le c_6
              refine lv_aload_n hx hb dX12_list_73 rfl (lv_at hl 1 rfl) ?_
              refine va_get (D := (dC, dI)) (ci := 12) (v := .ref m1) (C := RX12) (T := TX12) (N := 40) hx hb hts in_X12 hown hK hP 0 rfl rfl 9 (Nat.le_of_ble_eq_true rfl) (hts (.fieldLink RX12 30 "TextMenderModel" "harmA" "[I") (List.mem_of_getElem? (i := 4) rfl)) (fun _ h9 => h9) rfl dX12_list_74 ?_
              refine lv_aload_n hx hb dX12_list_77 rfl (lv_at hl 1 rfl) ?_
              refine va_get (D := (dC, dI)) (ci := 12) (v := .int zh) (C := RX12) (T := TX12) (N := 40) hx hb hts in_X12 hown hK hP 0 rfl rfl 11 (Nat.le_of_ble_eq_true rfl) (hts (.fieldLink RX12 161 "TextMenderModel" "harms" "I") (List.mem_of_getElem? (i := 3) rfl)) (fun _ h9 => h9) rfl dX12_list_78 ?_
              refine lv_iload_n hx hb dX12_list_81 rfl (lv_at hl 2 rfl) ?_
              obtain ⟨f_7, ef_7⟩ : ∃ g : Nat → Int32, g = upd e1 (zh : Int32).toNatClampNeg a := ⟨_, rfl⟩
              refine va_iast hx hb hK hP hD hS 1 0 rfl rfl (v_in (by omega)) dX12_list_82 (kWf (g := f_7) (F := fun f_7 => [(oM, .inr (12, [.ref mT, .int zt, .ref mS, .ref mX, .int zp, .int zf, .ref mL, .ref mB, .ref mD, .ref m1, .ref m2, .int zh, .ref mR, .int zr, .ref x1, .ref x2, .ref x3, .int zc, .ref mH, .int zy, .int za, .int zb, .int zs, .int zq, .int (-1), .int 0, .ref mY, .int zn, .ref mE, .int zm, .int zl, .ref mW, .int zk, .ref mO, .int zd, .ref y1, .ref y2, .ref y3, .ref y4, .ref mZ])), (m1, .inl (cI, 6, .inl f_7)), (m2, .inl (cI, 6, .inl e2))]) ef_7 rfl (fun H locs hPn hDn hSn => ?_))
              clear hP hD hS
              have hP := hPn
              have hD := hDn
              have hS := hSn
              clear hPn hDn hSn
              have g_f7 : rg 0 5 f_7 := rg_upd ef_7 g_e1 (by omega)
              refine lv_aload_n hx hb dX12_list_83 rfl (lv_at hl 1 rfl) ?_
              refine va_get (D := (dC, dI)) (ci := 12) (v := .ref m2) (C := RX12) (T := TX12) (N := 40) hx hb hts in_X12 hown hK hP 0 rfl rfl 10 (Nat.le_of_ble_eq_true rfl) (hts (.fieldLink RX12 33 "TextMenderModel" "harmB" "[I") (List.mem_of_getElem? (i := 5) rfl)) (fun _ h9 => h9) rfl dX12_list_84 ?_
              refine lv_aload_n hx hb dX12_list_87 rfl (lv_at hl 1 rfl) ?_
              refine va_get (D := (dC, dI)) (ci := 12) (v := .int zh) (C := RX12) (T := TX12) (N := 40) hx hb hts in_X12 hown hK hP 0 rfl rfl 11 (Nat.le_of_ble_eq_true rfl) (hts (.fieldLink RX12 161 "TextMenderModel" "harms" "I") (List.mem_of_getElem? (i := 3) rfl)) (fun _ h9 => h9) rfl dX12_list_88 ?_
              refine lv_iload_n hx hb dX12_list_91 rfl (lv_at hl 3 rfl) ?_
              obtain ⟨f_8, ef_8⟩ : ∃ g : Nat → Int32, g = upd e2 (zh : Int32).toNatClampNeg b := ⟨_, rfl⟩
              refine va_iast hx hb hK hP hD hS 2 0 rfl rfl (v_in (by omega)) dX12_list_92 (kWf (g := f_8) (F := fun f_8 => [(oM, .inr (12, [.ref mT, .int zt, .ref mS, .ref mX, .int zp, .int zf, .ref mL, .ref mB, .ref mD, .ref m1, .ref m2, .int zh, .ref mR, .int zr, .ref x1, .ref x2, .ref x3, .int zc, .ref mH, .int zy, .int za, .int zb, .int zs, .int zq, .int (-1), .int 0, .ref mY, .int zn, .ref mE, .int zm, .int zl, .ref mW, .int zk, .ref mO, .int zd, .ref y1, .ref y2, .ref y3, .ref y4, .ref mZ])), (m1, .inl (cI, 6, .inl f_7)), (m2, .inl (cI, 6, .inl f_8))]) ef_8 rfl (fun H locs hPn hDn hSn => ?_))
              clear hP hD hS
              have hP := hPn
              have hD := hDn
              have hS := hSn
              clear hPn hDn hSn
              have g_f8 : rg 0 5 f_8 := rg_upd ef_8 g_e2 (by omega)
              refine lv_aload_n hx hb dX12_list_93 rfl (lv_at hl 1 rfl) ?_
              refine lv_dup hx hb dX12_list_94 rfl ?_
              refine va_get (D := (dC, dI)) (ci := 12) (v := .int zh) (C := RX12) (T := TX12) (N := 40) hx hb hts in_X12 hown hK hP 0 rfl rfl 11 (Nat.le_of_ble_eq_true rfl) (hts (.fieldLink RX12 161 "TextMenderModel" "harms" "I") (List.mem_of_getElem? (i := 3) rfl)) (fun _ h9 => h9) rfl dX12_list_95 ?_
              refine lv_iconst (v := 1) hx hb dX12_list_98 (by decide) ?_
              refine lv_iadd hx hb dX12_list_99 ?_
              refine lv_topi (fun x_9 ex_9 => ?_)
              have tx_9 : x_9.toInt = zh.toInt + 1 := v_addR (l2 := 1) (h2 := 1) ex_9 g_zh (by decide) (by decide) (by decide)
              refine va_put (D := (dC, dI)) (ci := 12) (v := .int x_9) (ty := .int) (C := RX12) (T := TX12) (N := 40) hx hb hts in_X12 tyX12 tyX12_ok nmX12 hown hK hP hD hS 0 rfl rfl 11 (Nat.le_of_ble_eq_true rfl) (hts (.fieldLink RX12 161 "TextMenderModel" "harms" "I") (List.mem_of_getElem? (i := 3) rfl)) (fun _ h9 => h9) rfl (tyX12_ok 11 (Nat.le_of_ble_eq_true rfl)) rfl rfl (Nat.le_of_ble_eq_true rfl) dX12_list_100 (kW (wn := [(oM, .inr (12, [.ref mT, .int zt, .ref mS, .ref mX, .int zp, .int zf, .ref mL, .ref mB, .ref mD, .ref m1, .ref m2, .int x_9, .ref mR, .int zr, .ref x1, .ref x2, .ref x3, .int zc, .ref mH, .int zy, .int za, .int zb, .int zs, .int zq, .int (-1), .int 0, .ref mY, .int zn, .ref mE, .int zm, .int zl, .ref mW, .int zk, .ref mO, .int zd, .ref y1, .ref y2, .ref y3, .ref y4, .ref mZ])), (m1, .inl (cI, 6, .inl f_7)), (m2, .inl (cI, 6, .inl f_8))]) rfl (fun H locs hPn hDn hSn => ?_))
              clear hP hD hS
              have hP := hPn
              have hD := hDn
              have hS := hSn
              clear hPn hDn hSn
              refine lv_aload_n hx hb dX12_list_103 rfl (lv_at hl 1 rfl) ?_
              refine lv_dup hx hb dX12_list_104 rfl ?_
              refine va_get (D := (dC, dI)) (ci := 12) (v := .int zs) (C := RX12) (T := TX12) (N := 40) hx hb hts in_X12 hown hK hP 0 rfl rfl 22 (Nat.le_of_ble_eq_true rfl) (hts (.fieldLink RX12 148 "TextMenderModel" "state" "I") (List.mem_of_getElem? (i := 6) rfl)) (fun _ h9 => h9) rfl dX12_list_105 ?_
              refine lv_iconst (v := 1) hx hb dX12_list_108 (by decide) ?_
              refine lv_iadd hx hb dX12_list_109 ?_
              refine lv_topi (fun x_10 ex_10 => ?_)
              have tx_10 : x_10.toInt = zs.toInt + 1 := v_addR (l2 := 1) (h2 := 1) ex_10 g_zs (by decide) (by decide) (by decide)
              refine va_put (D := (dC, dI)) (ci := 12) (v := .int x_10) (ty := .int) (C := RX12) (T := TX12) (N := 40) hx hb hts in_X12 tyX12 tyX12_ok nmX12 hown hK hP hD hS 0 rfl rfl 22 (Nat.le_of_ble_eq_true rfl) (hts (.fieldLink RX12 148 "TextMenderModel" "state" "I") (List.mem_of_getElem? (i := 6) rfl)) (fun _ h9 => h9) rfl (tyX12_ok 22 (Nat.le_of_ble_eq_true rfl)) rfl rfl (Nat.le_of_ble_eq_true rfl) dX12_list_110 (kW (wn := [(oM, .inr (12, [.ref mT, .int zt, .ref mS, .ref mX, .int zp, .int zf, .ref mL, .ref mB, .ref mD, .ref m1, .ref m2, .int x_9, .ref mR, .int zr, .ref x1, .ref x2, .ref x3, .int zc, .ref mH, .int zy, .int za, .int zb, .int x_10, .int zq, .int (-1), .int 0, .ref mY, .int zn, .ref mE, .int zm, .int zl, .ref mW, .int zk, .ref mO, .int zd, .ref y1, .ref y2, .ref y3, .ref y4, .ref mZ])), (m1, .inl (cI, 6, .inl f_7)), (m2, .inl (cI, 6, .inl f_8))]) rfl (fun H locs hPn hDn hSn => ?_))
              clear hP hD hS
              have hP := hPn
              have hD := hDn
              have hS := hSn
              clear hPn hDn hSn
              refine lv_aload_n hx hb dX12_list_113 rfl (lv_at hl 1 rfl) ?_
              refine va_get (D := (dC, dI)) (ci := 12) (v := .int x_9) (C := RX12) (T := TX12) (N := 40) hx hb hts in_X12 hown hK hP 0 rfl rfl 11 (Nat.le_of_ble_eq_true rfl) (hts (.fieldLink RX12 161 "TextMenderModel" "harms" "I") (List.mem_of_getElem? (i := 3) rfl)) (fun _ h9 => h9) rfl dX12_list_114 ?_
              refine lv_iconst (v := 1) hx hb dX12_list_117 (by decide) ?_
              refine lv_isub hx hb dX12_list_118 ?_
              refine lv_topi (fun x_11 ex_11 => ?_)
              have tx_11 : x_11.toInt = x_9.toInt - 1 := v_subR (l2 := 1) (h2 := 1) ex_11 (v_sumR (l := 1) (h := 7) (l2 := 1) (h2 := 1) tx_9 g_zh (by decide) (by decide) (by decide)) (by decide) (by decide) (by decide)
              exact kl_i (v := x_11) hQQ hx hb hr hlocks hS dX12_list_119 (fun PZ9 kZ9 => kZ9 0 (-1) x_9 f_7 f_8 x_10 (⟨hP, hD⟩) (by omega) (g_f7) (g_f8) (by omega) (by show x_10.toInt ≤ zs.toInt + 1 ∧ zs.toInt ≤ x_10.toInt; omega) (Or.inl ⟨by unfold okc; omega, by unfold okc; omega, by omega, fun j hj => hno j (by omega), by omega, by omega, ef_7, ef_8⟩) (by first | exact Or.inl ⟨by first | rfl | omega, rfl⟩ | exact Or.inr ⟨by first | decide | omega, by omega⟩))
            · have tc_6 : k.toInt < zh.toInt := v_nle c_6
              refine lv_aload_n hx hb dX12_list_45 rfl (lv_at hl 1 rfl) ?_
              refine va_get (D := (dC, dI)) (ci := 12) (v := .ref m1) (C := RX12) (T := TX12) (N := 40) hx hb hts in_X12 hown hK hP 0 rfl rfl 9 (Nat.le_of_ble_eq_true rfl) (hts (.fieldLink RX12 30 "TextMenderModel" "harmA" "[I") (List.mem_of_getElem? (i := 4) rfl)) (fun _ h9 => h9) rfl dX12_list_46 ?_
              refine lv_iload_n hx hb dX12_list_49 rfl (lv_at hl 0 rfl) ?_
              refine va_iald hx hb hK hP 1 0 rfl rfl (v_in (by omega)) dX12_list_50 ?_
              refine lv_topi (fun x_12 ex_12 => ?_)
              have tx_12 : 0 ≤ x_12.toInt ∧ x_12.toInt ≤ 5 := rg_at g_e1 ex_12
              refine lv_iload_n hx hb dX12_list_51 rfl (lv_at hl 2 rfl) ?_
              refine lv_icmp_ne (tgt := 67) hx hb dX12_list_52 (by decide) (fun c_13 => ?_) (fun c_13 => ?_)
              · have tc_13 : ¬ x_12.toInt = a.toInt := v_ne c_13
                obtain ⟨x_14, ex_14⟩ : ∃ y : Int32, y = k + 1 := ⟨_, rfl⟩
                have tx_14 : x_14.toInt = k.toInt + 1 := v_addR (l2 := 1) (h2 := 1) ex_14 g_k (by decide) (by decide) (by decide)
                refine lv_iinc (v := x_14) (lv' := [(3, .int x_14), (0, .ref oM), (1, .int a), (2, .int b)]) hx hb dX12_list_67 hl (k := 0) rfl (by rw [ex_14]; rfl) (by decide) rfl (fun ls hl => ?_)
                refine lv_goto (tgt := 37) hx hb dX12_list_70 (by decide) ?_
                exact ih_37 x_14 _ _ _ (ms_lt hm_37 (by show ((6 - x_14.toInt : Int)) < 6 - k.toInt; omega) (by show (0 : Int) < 6 - k.toInt; omega)) (by show 0 ≤ x_14.toInt ∧ x_14.toInt ≤ 6; omega) (noP_s1 hno ex_12 c_13 (by omega) (by omega)) (by show x_14.toInt ≤ zh.toInt; omega) hP hD hS (lv_sub hl [0, 1, 2, 3] rfl)
              · have tc_13 : x_12.toInt = a.toInt := v_eq c_13
                refine lv_aload_n hx hb dX12_list_55 rfl (lv_at hl 1 rfl) ?_
                refine va_get (D := (dC, dI)) (ci := 12) (v := .ref m2) (C := RX12) (T := TX12) (N := 40) hx hb hts in_X12 hown hK hP 0 rfl rfl 10 (Nat.le_of_ble_eq_true rfl) (hts (.fieldLink RX12 33 "TextMenderModel" "harmB" "[I") (List.mem_of_getElem? (i := 5) rfl)) (fun _ h9 => h9) rfl dX12_list_56 ?_
                refine lv_iload_n hx hb dX12_list_59 rfl (lv_at hl 0 rfl) ?_
                refine va_iald hx hb hK hP 2 0 rfl rfl (v_in (by omega)) dX12_list_60 ?_
                refine lv_topi (fun x_15 ex_15 => ?_)
                have tx_15 : 0 ≤ x_15.toInt ∧ x_15.toInt ≤ 5 := rg_at g_e2 ex_15
                refine lv_iload_n hx hb dX12_list_61 rfl (lv_at hl 3 rfl) ?_
                refine lv_icmp_ne (tgt := 67) hx hb dX12_list_62 (by decide) (fun c_16 => ?_) (fun c_16 => ?_)
                · have tc_16 : ¬ x_15.toInt = b.toInt := v_ne c_16
                  obtain ⟨x_17, ex_17⟩ : ∃ y : Int32, y = k + 1 := ⟨_, rfl⟩
                  have tx_17 : x_17.toInt = k.toInt + 1 := v_addR (l2 := 1) (h2 := 1) ex_17 g_k (by decide) (by decide) (by decide)
                  refine lv_iinc (v := x_17) (lv' := [(3, .int x_17), (0, .ref oM), (1, .int a), (2, .int b)]) hx hb dX12_list_67 hl (k := 0) rfl (by rw [ex_17]; rfl) (by decide) rfl (fun ls hl => ?_)
                  refine lv_goto (tgt := 37) hx hb dX12_list_70 (by decide) ?_
                  exact ih_37 x_17 _ _ _ (ms_lt hm_37 (by show ((6 - x_17.toInt : Int)) < 6 - k.toInt; omega) (by show (0 : Int) < 6 - k.toInt; omega)) (by show 0 ≤ x_17.toInt ∧ x_17.toInt ≤ 6; omega) (noP_s2 hno ex_15 c_16 (by omega) (by omega)) (by show x_17.toInt ≤ zh.toInt; omega) hP hD hS (lv_sub hl [0, 1, 2, 3] rfl)
                · have tc_16 : x_15.toInt = b.toInt := v_eq c_16
                  refine lv_iconst (v := (-1)) hx hb dX12_list_65 (by decide) ?_
                  exact kl_i (v := (-1)) hQQ hx hb hr hlocks hS dX12_list_66 (fun PZ9 kZ9 => kZ9 0 (-1) zh e1 e2 zs (⟨hP, hD⟩) (g_zh) (g_e1) (g_e2) (g_zs) (by show zs.toInt ≤ zs.toInt + 1 ∧ zs.toInt ≤ zs.toInt; omega) (Or.inr ⟨rfl, Or.inr (Or.inr (Or.inr (isP_at ex_12 ex_15 c_13 c_16 (by omega) (by omega)))), rfl, rfl, rfl⟩) (by first | exact Or.inl ⟨by first | rfl | omega, rfl⟩ | exact Or.inr ⟨by first | decide | omega, by omega⟩))
        exact LOOP_37 _ 0 _ _ _ (ms_s _) (by decide) (noP_0 (by decide)) (by show 0 ≤ zh.toInt; omega) hP hD hS (lv_sub hl [0, 1, 2, 3] rfl)
      · have tc_5 : zh.toInt = 6 := v_eq c_5
        refine lv_iconst (v := (-1)) hx hb dX12_list_33 (by decide) ?_
        exact kl_i (v := (-1)) hQQ hx hb hr hlocks hS dX12_list_34 (fun PZ9 kZ9 => kZ9 0 (-1) zh e1 e2 zs (⟨hP, hD⟩) (g_zh) (g_e1) (g_e2) (g_zs) (by show zs.toInt ≤ zs.toInt + 1 ∧ zs.toInt ≤ zs.toInt; omega) (Or.inr ⟨rfl, by unfold okc; omega, rfl, rfl, rfl⟩) (by first | exact Or.inl ⟨by first | rfl | omega, rfl⟩ | exact Or.inr ⟨by first | decide | omega, by omega⟩))

set_option maxHeartbeats 40000000 in
set_option maxRecDepth 100000 in
theorem f_X12_unlist (l : Launch) (dC : Nat → ClassId) (dI : Nat → Nat → Nat) (cI cS : ClassId) (sz : Nat) (oM : Nat) (mT : Nat) (mS : Nat) (mX : Nat) (mL : Nat) (mB : Nat) (mD : Nat) (m1 : Nat) (m2 : Nat) (mR : Nat) (x1 : Nat) (x2 : Nat) (x3 : Nat) (mH : Nat) (mY : Nat) (mE : Nat) (mW : Nat) (mO : Nat) (y1 : Nat) (y2 : Nat) (y3 : Nat) (y4 : Nat) (mZ : Nat) (zt : Int32) (zp : Int32) (zf : Int32) (zh : Int32) (zr : Int32) (zc : Int32) (zy : Int32) (za : Int32) (zb : Int32) (zs : Int32) (zq : Int32) (zw : Int32) (ze : Int32) (zn : Int32) (zm : Int32) (zl : Int32) (zk : Int32) (zd : Int32) (g_zt : 0 ≤ zt.toInt ∧ zt.toInt ≤ 900) (g_zp : 0 ≤ zp.toInt ∧ zp.toInt ≤ 20) (g_zf : 0 ≤ zf.toInt ∧ zf.toInt ≤ 19) (g_zh : 0 ≤ zh.toInt ∧ zh.toInt ≤ 6) (g_zr : 0 ≤ zr.toInt ∧ zr.toInt ≤ 258) (g_zc : 0 ≤ zc.toInt ∧ zc.toInt ≤ 300) (g_zy : 0 ≤ zy.toInt ∧ zy.toInt ≤ 65536) (g_za : 0 ≤ za.toInt ∧ za.toInt ≤ 5) (g_zb : 0 ≤ zb.toInt ∧ zb.toInt ≤ 5) (g_zs : 0 ≤ zs.toInt ∧ zs.toInt ≤ 2000000) (g_zq : -1 ≤ zq.toInt ∧ zq.toInt ≤ 2000000) (g_zn : 0 ≤ zn.toInt ∧ zn.toInt ≤ 2600) (g_zm : 0 ≤ zm.toInt ∧ zm.toInt ≤ 2600) (g_zk : 0 ≤ zk.toInt ∧ zk.toInt ≤ 300) (hzs : zs.toInt ≤ 1000000) : kMi l yX12_unlist wsX12_unlist ({ frames := 0, cells := 0, slots := 0, locals := 0 } : Room) [.ref oM] sz (dC, dI) vwCl [(cI, .int), (cS, .short)] [(oM, .inr (12, [.ref mT, .int zt, .ref mS, .ref mX, .int zp, .int zf, .ref mL, .ref mB, .ref mD, .ref m1, .ref m2, .int zh, .ref mR, .int zr, .ref x1, .ref x2, .ref x3, .int zc, .ref mH, .int zy, .int za, .int zb, .int zs, .int zq, .int zw, .int ze, .ref mY, .int zn, .ref mE, .int zm, .int zl, .ref mW, .int zk, .ref mO, .int zd, .ref y1, .ref y2, .ref y3, .ref y4, .ref mZ]))] (fun _ => True) 0 0 (fun (A : Nat → Prop) (r : Int32) (hh9 : Heap) => ∀ PZ9 : Prop, (∀ (ze' : Int32) (zh' : Int32) (zs' : Int32), kPD (dC, dI) vwCl A [(oM, .inr (12, [.ref mT, .int zt, .ref mS, .ref mX, .int zp, .int zf, .ref mL, .ref mB, .ref mD, .ref m1, .ref m2, .int zh', .ref mR, .int zr, .ref x1, .ref x2, .ref x3, .int zc, .ref mH, .int zy, .int za, .int zb, .int zs', .int zq, .int zw, .int ze', .ref mY, .int zn, .ref mE, .int zm, .int zl, .ref mW, .int zk, .ref mO, .int zd, .ref y1, .ref y2, .ref y3, .ref y4, .ref mZ]))] hh9 → (0 ≤ zh'.toInt ∧ zh'.toInt ≤ 6) → (0 ≤ zs'.toInt ∧ zs'.toInt ≤ 2000000) → (r = zh) → (zh'.toInt = 0) → (zs'.toInt = zs.toInt + 1) → (zs'.toInt ≤ zs.toInt + 1 ∧ zs.toInt ≤ zs'.toInt) → PZ9) → PZ9) := by
  refine kMi_of (cc := cX12_unlist) (maxL := 2) (ret := (some .int)) (lv := [(0, .ref oM)]) (by decide +kernel) rfl rfl (Nat.le_of_ble_eq_true rfl) ?_
  intro p e s m below meth c A QQ ls hx hb hr hts hml hown hlocks hA hQQ hK hX hP hD hS hl
  have hown : s.vm.findClass RX12 = some m.cls := hown
  have hcf := k_cf hx hb hml hown hts
  have in_X12 : ∀ w ∈ wsX120, w ∈ wsX12_unlist := fun _ h => List.mem_cons_of_mem _ (List.mem_append_right _ (h))
  replace g_zt := hid g_zt
  replace g_zp := hid g_zp
  replace g_zf := hid g_zf
  replace g_zh := hid g_zh
  replace g_zr := hid g_zr
  replace g_zc := hid g_zc
  replace g_zy := hid g_zy
  replace g_za := hid g_za
  replace g_zb := hid g_zb
  replace g_zq := hid g_zq
  replace g_zn := hid g_zn
  replace g_zm := hid g_zm
  replace g_zk := hid g_zk
  refine lv_aload_n hx hb dX12_unlist_0 rfl (lv_at hl 0 rfl) ?_
  refine lv_iconst (v := 0) hx hb dX12_unlist_1 (by decide) ?_
  refine va_put (D := (dC, dI)) (ci := 12) (v := .int 0) (ty := .int) (C := RX12) (T := TX12) (N := 40) hx hb hts in_X12 tyX12 tyX12_ok nmX12 hown hK hP hD hS 0 rfl rfl 25 (Nat.le_of_ble_eq_true rfl) (hts (.fieldLink RX12 85 "TextMenderModel" "thrown" "I") (List.mem_of_getElem? (i := 1) rfl)) (fun _ h9 => h9) rfl (tyX12_ok 25 (Nat.le_of_ble_eq_true rfl)) rfl rfl (Nat.le_of_ble_eq_true rfl) dX12_unlist_2 (kW (wn := [(oM, .inr (12, [.ref mT, .int zt, .ref mS, .ref mX, .int zp, .int zf, .ref mL, .ref mB, .ref mD, .ref m1, .ref m2, .int zh, .ref mR, .int zr, .ref x1, .ref x2, .ref x3, .int zc, .ref mH, .int zy, .int za, .int zb, .int zs, .int zq, .int zw, .int 0, .ref mY, .int zn, .ref mE, .int zm, .int zl, .ref mW, .int zk, .ref mO, .int zd, .ref y1, .ref y2, .ref y3, .ref y4, .ref mZ]))]) rfl (fun H locs hPn hDn hSn => ?_))
  clear hP hD hS
  have hP := hPn
  have hD := hDn
  have hS := hSn
  clear hPn hDn hSn
  refine lv_aload_n hx hb dX12_unlist_5 rfl (lv_at hl 0 rfl) ?_
  refine va_get (D := (dC, dI)) (ci := 12) (v := .int zh) (C := RX12) (T := TX12) (N := 40) hx hb hts in_X12 hown hK hP 0 rfl rfl 11 (Nat.le_of_ble_eq_true rfl) (hts (.fieldLink RX12 161 "TextMenderModel" "harms" "I") (List.mem_of_getElem? (i := 2) rfl)) (fun _ h9 => h9) rfl dX12_unlist_6 ?_
  refine lv_istore_n (lv' := [(1, .int zh), (0, .ref oM)]) hx hb dX12_unlist_9 rfl hl (by decide) rfl (fun ls hl => ?_)
  refine lv_aload_n hx hb dX12_unlist_10 rfl (lv_at hl 1 rfl) ?_
  refine lv_iconst (v := 0) hx hb dX12_unlist_11 (by decide) ?_
  refine va_put (D := (dC, dI)) (ci := 12) (v := .int 0) (ty := .int) (C := RX12) (T := TX12) (N := 40) hx hb hts in_X12 tyX12 tyX12_ok nmX12 hown hK hP hD hS 0 rfl rfl 11 (Nat.le_of_ble_eq_true rfl) (hts (.fieldLink RX12 161 "TextMenderModel" "harms" "I") (List.mem_of_getElem? (i := 2) rfl)) (fun _ h9 => h9) rfl (tyX12_ok 11 (Nat.le_of_ble_eq_true rfl)) rfl rfl (Nat.le_of_ble_eq_true rfl) dX12_unlist_12 (kW (wn := [(oM, .inr (12, [.ref mT, .int zt, .ref mS, .ref mX, .int zp, .int zf, .ref mL, .ref mB, .ref mD, .ref m1, .ref m2, .int 0, .ref mR, .int zr, .ref x1, .ref x2, .ref x3, .int zc, .ref mH, .int zy, .int za, .int zb, .int zs, .int zq, .int zw, .int 0, .ref mY, .int zn, .ref mE, .int zm, .int zl, .ref mW, .int zk, .ref mO, .int zd, .ref y1, .ref y2, .ref y3, .ref y4, .ref mZ]))]) rfl (fun H locs hPn hDn hSn => ?_))
  clear hP hD hS
  have hP := hPn
  have hD := hDn
  have hS := hSn
  clear hPn hDn hSn
  refine lv_aload_n hx hb dX12_unlist_15 rfl (lv_at hl 1 rfl) ?_
  refine lv_dup hx hb dX12_unlist_16 rfl ?_
  refine va_get (D := (dC, dI)) (ci := 12) (v := .int zs) (C := RX12) (T := TX12) (N := 40) hx hb hts in_X12 hown hK hP 0 rfl rfl 22 (Nat.le_of_ble_eq_true rfl) (hts (.fieldLink RX12 148 "TextMenderModel" "state" "I") (List.mem_of_getElem? (i := 3) rfl)) (fun _ h9 => h9) rfl dX12_unlist_17 ?_
  refine lv_iconst (v := 1) hx hb dX12_unlist_20 (by decide) ?_
  refine lv_iadd hx hb dX12_unlist_21 ?_
  refine lv_topi (fun x_1 ex_1 => ?_)
  have tx_1 : x_1.toInt = zs.toInt + 1 := v_addR (l2 := 1) (h2 := 1) ex_1 g_zs (by decide) (by decide) (by decide)
  refine va_put (D := (dC, dI)) (ci := 12) (v := .int x_1) (ty := .int) (C := RX12) (T := TX12) (N := 40) hx hb hts in_X12 tyX12 tyX12_ok nmX12 hown hK hP hD hS 0 rfl rfl 22 (Nat.le_of_ble_eq_true rfl) (hts (.fieldLink RX12 148 "TextMenderModel" "state" "I") (List.mem_of_getElem? (i := 3) rfl)) (fun _ h9 => h9) rfl (tyX12_ok 22 (Nat.le_of_ble_eq_true rfl)) rfl rfl (Nat.le_of_ble_eq_true rfl) dX12_unlist_22 (kW (wn := [(oM, .inr (12, [.ref mT, .int zt, .ref mS, .ref mX, .int zp, .int zf, .ref mL, .ref mB, .ref mD, .ref m1, .ref m2, .int 0, .ref mR, .int zr, .ref x1, .ref x2, .ref x3, .int zc, .ref mH, .int zy, .int za, .int zb, .int x_1, .int zq, .int zw, .int 0, .ref mY, .int zn, .ref mE, .int zm, .int zl, .ref mW, .int zk, .ref mO, .int zd, .ref y1, .ref y2, .ref y3, .ref y4, .ref mZ]))]) rfl (fun H locs hPn hDn hSn => ?_))
  clear hP hD hS
  have hP := hPn
  have hD := hDn
  have hS := hSn
  clear hPn hDn hSn
  refine lv_iload_n hx hb dX12_unlist_25 rfl (lv_at hl 0 rfl) ?_
  exact kl_i (v := zh) hQQ hx hb hr hlocks hS dX12_unlist_26 (fun PZ9 kZ9 => kZ9 0 0 x_1 (⟨hP, hD⟩) (by decide) (by omega) (rfl) (by show 0 = 0; omega) (by show x_1.toInt = zs.toInt + 1; omega) (by show x_1.toInt ≤ zs.toInt + 1 ∧ zs.toInt ≤ x_1.toInt; omega))

end

/-! 58.told -/
section
abbrev nTd (K V : Nat → Int32) : Int32 → Prop := nT K V

set_option maxHeartbeats 40000000 in
set_option maxRecDepth 100000 in
theorem f_X10_placeFor (l : Launch) (dC : Nat → ClassId) (dI : Nat → Nat → Nat) (cI cS : ClassId) (sz : Nat) (ot : Nat) (at1 : Nat) (at2 : Nat) (at3 : Nat) (lt : Int32) (ft2 : Nat → Int32) (ft3 : Nat → Int32) (le : Int32)  : kMi l yX10_placeFor wsX10_placeFor ({ frames := 0, cells := 0, slots := 0, locals := 0 } : Room) [.ref ot, .int le] sz (dC, dI) vwCl [(cI, .int), (cS, .short)] [(ot, .inr (10, [.ref at1, .ref at2, .ref at3, .int lt])), (at2, .inl (cI, 512, .inl ft2)), (at3, .inl (cI, 512, .inl ft3))] (fun _ => True) 0 0 (fun (A : Nat → Prop) (r : Int32) (hh9 : Heap) => ∀ PZ9 : Prop, (kPD (dC, dI) vwCl A [(ot, .inr (10, [.ref at1, .ref at2, .ref at3, .int lt])), (at2, .inl (cI, 512, .inl ft2)), (at3, .inl (cI, 512, .inl ft3))] hh9 → (-1 ≤ r.toInt ∧ r.toInt ≤ 511) → (F_pf 512 511 (hsT le) le r ft2 ft3) → PZ9) → PZ9) := by
  refine kMi_of (cc := cX10_placeFor) (maxL := 5) (ret := (some .int)) (lv := [(0, .ref ot), (1, .int le)]) (by decide +kernel) rfl rfl (Nat.le_of_ble_eq_true rfl) ?_
  intro p e s m below meth c A QQ ls hx hb hr hts hml hown hlocks hA hQQ hK hX hP hD hS hl
  have hown : s.vm.findClass RX10 = some m.cls := hown
  have hcf := k_cf hx hb hml hown hts
  have in_X10 : ∀ w ∈ wsX100, w ∈ wsX10_placeFor := fun _ h => List.mem_cons_of_mem _ (List.mem_append_right _ (h))
  refine lv_iload_n hx hb dX10_placeFor_0 rfl (lv_at hl 1 rfl) ?_
  refine lv_ldc hx hb hown (hts (.constant RX10 45 (-1640531535)) (List.mem_of_getElem? (i := 1) rfl)) dX10_placeFor_1 ?_
  refine lv_imul hx hb dX10_placeFor_3 ?_
  refine lv_topi (fun x_1 ex_1 => ?_)
  have rv1_0 := v_rng le
  refine lv_bipush (v := 23) hx hb dX10_placeFor_4 (by decide) ?_
  obtain ⟨x_2, ex_2⟩ : ∃ v : Int32, v = ((x_1 : Int32).toUInt32 >>> ((23 : Int32).toUInt32 &&& Int32.toUInt32 31)).toInt32 := ⟨_, rfl⟩
  refine lv_iushr (v := x_2) hx hb dX10_placeFor_6 ex_2.symm ?_
  have tx_2 : 0 ≤ x_2.toInt ∧ x_2.toInt < 512 := v_ushr 23 ex_2 (by decide) (by decide) (by decide)
  refine lv_istore_n (lv' := [(2, .int x_2), (0, .ref ot), (1, .int le)]) hx hb dX10_placeFor_7 rfl hl (by decide) rfl (fun ls hl => ?_)
  refine lv_iconst (v := 0) hx hb dX10_placeFor_8 (by decide) ?_
  refine lv_istore_n (lv' := [(3, .int 0), (2, .int x_2), (0, .ref ot), (1, .int le)]) hx hb dX10_placeFor_9 rfl hl (by decide) rfl (fun ls hl => ?_)
  have LOOP_10 : ∀ (k_10 : Nat) (k : Int32) (H : Heap) (locs : List Loc) (ls : Array Slot), MSd (512 - k.toInt : Int) k_10 → (0 ≤ k.toInt ∧ k.toInt ≤ 512) → (∀ q : Int32, 0 ≤ q.toInt → q.toInt < k.toInt → ¬ ft3 (slI 511 x_2 q) = -1 ∧ ¬ ft2 (slI 511 x_2 q) = le) → va_P (dC, dI) vwCl [(ot, .inr (10, [.ref at1, .ref at2, .ref at3, .int lt])), (at2, .inl (cI, 512, .inl ft2)), (at3, .inl (cI, 512, .inl ft3))] H → va_D A [(ot, .inr (10, [.ref at1, .ref at2, .ref at3, .int lt])), (at2, .inl (cI, 512, .inl ft2)), (at3, .inl (cI, 512, .inl ft3))] → va_S A s.heap H locs → lv_has ls 5 [(3, .int k), (2, .int x_2), (0, .ref ot), (1, .int le)] → W p l e (headSpec wsX10_placeFor ({ frames := 0, cells := 0, slots := 0, locals := 0 } : Room)).room s m ([.ref ot, .int le] : List Value).toArray below meth c H locs 0 0 (MQ below QQ ([.ref ot, .int le] : List Value).toArray s 0 0 A) (F0 m 10 ls []) := by
    clear hP hD hS hl
    intro k_10
    induction k_10 with
    | zero =>
      intro k H locs ls hm_10 g_k hq hP hD hS hl
      exact ms_0 hm_10
    | succ k_10 ih_10 =>
      intro k H locs ls hm_10 g_k hq hP hD hS hl
      refine lv_iload_n hx hb dX10_placeFor_10 rfl (lv_at hl 0 rfl) ?_
      refine lv_sipush (v := 512) hx hb dX10_placeFor_11 (by decide) ?_
      refine lv_icmp_ge (tgt := 57) hx hb dX10_placeFor_14 (by decide) (fun c_3 => ?_) (fun c_3 => ?_)
      · have tc_3 : 512 ≤ k.toInt := v_le c_3
        refine lv_iconst (v := (-1)) hx hb dX10_placeFor_57 (by decide) ?_
        exact kl_i (v := (-1)) hQQ hx hb hr hlocks hS dX10_placeFor_58 (fun PZ9 kZ9 => kZ9 (⟨hP, hD⟩) (by decide) (F_pf_eq (Or.inl ⟨rfl, fun q h1 h2 => hq q h1 (by omega)⟩) (by rw [ex_2, ex_1]; rfl)))
      · have tc_3 : k.toInt < 512 := v_nle c_3
        refine lv_iload_n hx hb dX10_placeFor_17 rfl (lv_at hl 1 rfl) ?_
        refine lv_iload_n hx hb dX10_placeFor_18 rfl (lv_at hl 0 rfl) ?_
        refine lv_iadd hx hb dX10_placeFor_19 ?_
        refine lv_topi (fun x_4 ex_4 => ?_)
        have tx_4 : x_4.toInt = x_2.toInt + k.toInt := v_add ex_4 (by show -2147483648 ≤ x_2.toInt + k.toInt; omega) (by show x_2.toInt + k.toInt < 2147483648; omega)
        refine lv_sipush (v := 511) hx hb dX10_placeFor_20 (by decide) ?_
        refine lv_iand hx hb dX10_placeFor_23 ?_
        refine lv_topi (fun x_5 ex_5 => ?_)
        have tx_5 : 0 ≤ x_5.toInt ∧ x_5.toInt < 512 := v_and 9 ex_5 (by decide) (by decide)
        refine lv_istore (lv' := [(4, .int x_5), (3, .int k), (2, .int x_2), (0, .ref ot), (1, .int le)]) hx hb dX10_placeFor_24 hl (by decide) rfl (fun ls hl => ?_)
        refine lv_aload_n hx hb dX10_placeFor_26 rfl (lv_at hl 3 rfl) ?_
        refine va_get (D := (dC, dI)) (ci := 10) (v := .ref at3) (C := RX10) (T := TX10) (N := 4) hx hb hts in_X10 hown hK hP 0 rfl rfl 2 (Nat.le_of_ble_eq_true rfl) (hts (.fieldLink RX10 18 "TextMender$ToldCode" "placeByte" "[I") (List.mem_of_getElem? (i := 2) rfl)) (fun _ h9 => h9) rfl dX10_placeFor_27 ?_
        refine lv_iload hx hb dX10_placeFor_30 (lv_at hl 0 rfl) ?_
        refine va_iald hx hb hK hP 2 0 rfl rfl (v_in (by omega)) dX10_placeFor_32 ?_
        refine lv_topi (fun x_6 ex_6 => ?_)
        refine lv_iconst (v := (-1)) hx hb dX10_placeFor_33 (by decide) ?_
        refine lv_icmp_eq (tgt := 48) hx hb dX10_placeFor_34 (by decide) (fun c_7 => ?_) (fun c_7 => ?_)
        · have tc_7 : x_6.toInt = (-1) := v_eq c_7
          refine lv_iload hx hb dX10_placeFor_48 (lv_at hl 0 rfl) ?_
          exact kl_i (v := x_5) hQQ hx hb hr hlocks hS dX10_placeFor_50 (fun PZ9 kZ9 => kZ9 (⟨hP, hD⟩) (by omega) (F_pf_eq (Or.inr ⟨by omega, way_here hq ex_4 ex_5 (Or.inl (by rw [← ex_6]; exact c_7)) (by omega) (by omega)⟩) (by rw [ex_2, ex_1]; rfl)))
        · have tc_7 : ¬ x_6.toInt = (-1) := v_ne c_7
          refine lv_aload_n hx hb dX10_placeFor_37 rfl (lv_at hl 3 rfl) ?_
          refine va_get (D := (dC, dI)) (ci := 10) (v := .ref at2) (C := RX10) (T := TX10) (N := 4) hx hb hts in_X10 hown hK hP 0 rfl rfl 1 (Nat.le_of_ble_eq_true rfl) (hts (.fieldLink RX10 15 "TextMender$ToldCode" "placeLetter" "[I") (List.mem_of_getElem? (i := 3) rfl)) (fun _ h9 => h9) rfl dX10_placeFor_38 ?_
          refine lv_iload hx hb dX10_placeFor_41 (lv_at hl 0 rfl) ?_
          refine va_iald hx hb hK hP 1 0 rfl rfl (v_in (by omega)) dX10_placeFor_43 ?_
          refine lv_topi (fun x_8 ex_8 => ?_)
          refine lv_iload_n hx hb dX10_placeFor_44 rfl (lv_at hl 4 rfl) ?_
          refine lv_icmp_ne (tgt := 51) hx hb dX10_placeFor_45 (by decide) (fun c_9 => ?_) (fun c_9 => ?_)
          · have tc_9 : ¬ x_8.toInt = le.toInt := v_ne c_9
            have rw9_0 := v_rng x_8
            obtain ⟨x_10, ex_10⟩ : ∃ y : Int32, y = k + 1 := ⟨_, rfl⟩
            have tx_10 : x_10.toInt = k.toInt + 1 := v_addR (l2 := 1) (h2 := 1) ex_10 g_k (by decide) (by decide) (by decide)
            refine lv_iinc (v := x_10) (lv' := [(3, .int x_10), (4, .int x_5), (2, .int x_2), (0, .ref ot), (1, .int le)]) hx hb dX10_placeFor_51 hl (k := 1) rfl (by rw [ex_10]; rfl) (by decide) rfl (fun ls hl => ?_)
            refine lv_goto (tgt := 10) hx hb dX10_placeFor_54 (by decide) ?_
            exact ih_10 x_10 _ _ _ (ms_lt hm_10 (by show ((512 - x_10.toInt : Int)) < 512 - k.toInt; omega) (by show (0 : Int) < 512 - k.toInt; omega)) (by show 0 ≤ x_10.toInt ∧ x_10.toInt ≤ 512; omega) (way_step hq ex_4 ex_5 ex_6 ex_8 c_7 c_9 (by omega)) hP hD hS (lv_sub hl [0, 2, 3, 4] rfl)
          · have tc_9 : x_8.toInt = le.toInt := v_eq c_9
            have rw9_0 := v_rng x_8
            refine lv_iload hx hb dX10_placeFor_48 (lv_at hl 0 rfl) ?_
            exact kl_i (v := x_5) hQQ hx hb hr hlocks hS dX10_placeFor_50 (fun PZ9 kZ9 => kZ9 (⟨hP, hD⟩) (by omega) (F_pf_eq (Or.inr ⟨by omega, way_here hq ex_4 ex_5 (Or.inr (by rw [← ex_8]; exact c_9)) (by omega) (by omega)⟩) (by rw [ex_2, ex_1]; rfl)))
  exact LOOP_10 _ 0 _ _ _ (ms_s _) (by decide) (fun q h1 h2 => absurd h2 (by show ¬ q.toInt < 0; omega)) hP hD hS (lv_sub hl [0, 1, 2, 3] rfl)

set_option maxHeartbeats 40000000 in
set_option maxRecDepth 100000 in
theorem f_X10_byteFor (l : Launch) (dC : Nat → ClassId) (dI : Nat → Nat → Nat) (cI cS : ClassId) (sz : Nat) (ot : Nat) (at1 : Nat) (at2 : Nat) (at3 : Nat) (lt : Int32) (ft2 : Nat → Int32) (ft3 : Nat → Int32) (le : Int32) (hT : HT 512 511 hsT ft2 ft3) (ho : (occ ft3 512 : Int) ≤ 511) : kMi l yX10_byteFor wsX10_byteFor ({ frames := 1, cells := 0, slots := 0, locals := 24 } : Room) [.ref ot, .int le] sz (dC, dI) vwCl [(cI, .int), (cS, .short)] [(ot, .inr (10, [.ref at1, .ref at2, .ref at3, .int lt])), (at2, .inl (cI, 512, .inl ft2)), (at3, .inl (cI, 512, .inl ft3))] (fun _ => True) 0 0 (fun (A : Nat → Prop) (r : Int32) (hh9 : Heap) => ∀ PZ9 : Prop, (kPD (dC, dI) vwCl A [(ot, .inr (10, [.ref at1, .ref at2, .ref at3, .int lt])), (at2, .inl (cI, 512, .inl ft2)), (at3, .inl (cI, 512, .inl ft3))] hh9 → (F_bf r le ft2 ft3) → PZ9) → PZ9) := by
  refine kMi_of (cc := cX10_byteFor) (maxL := 3) (ret := (some .int)) (lv := [(0, .ref ot), (1, .int le)]) (by decide +kernel) rfl rfl (Nat.le_of_ble_eq_true rfl) ?_
  intro p e s m below meth c A QQ ls hx hb hr hts hml hown hlocks hA hQQ hK hX hP hD hS hl
  have hown : s.vm.findClass RX10 = some m.cls := hown
  have hcf := k_cf hx hb hml hown hts
  have in_X10 : ∀ w ∈ wsX100, w ∈ wsX10_byteFor := fun _ h => List.mem_cons_of_mem _ (List.mem_append_left _ (List.mem_append_right _ (h)))
  refine lv_aload_n hx hb dX10_byteFor_0 rfl (lv_at hl 0 rfl) ?_
  refine lv_iload_n hx hb dX10_byteFor_1 rfl (lv_at hl 1 rfl) ?_
  refine kV_i (rest := []) (q0 := 0) (ci := 10) hcf (f_X10_placeFor l dC dI cI cS s.heap.size ot at1 at2 at3 lt ft2 ft3 le ) kc_X10_placeFor gX10_byteFor_X10_placeFor rfl rfl rfl ⟨Nat.le_of_ble_eq_true rfl, Nat.le_of_ble_eq_true rfl⟩ kX_t hK hP hD hS hA [0, 1, 2] [] rfl (by decide +kernel) rfl rfl rfl hl rfl (Nat.le_of_ble_eq_true rfl) dX10_byteFor_2 ⟨Nat.le_of_ble_eq_true rfl, Nat.le_of_ble_eq_true rfl⟩ (fun r_1 H locs hB hJ hSn => ?_)
  refine hB _ (fun hPD9 hf1_0 hf1_1 => ?_)
  clear hB
  obtain ⟨hPn, hDn⟩ := hJ _ hPD9.1 hPD9.2 [(ot, .inr (10, [.ref at1, .ref at2, .ref at3, .int lt])), (at2, .inl (cI, 512, .inl ft2)), (at3, .inl (cI, 512, .inl ft3))] rfl
  clear hP hD hS hJ hPD9
  have hP := hPn
  have hD := hDn
  have hS := hSn
  clear hPn hDn hSn
  obtain ⟨hpz1, hpf1⟩ := pfT_found hf1_1 ho
  refine lv_istore_n (lv' := [(2, .int r_1), (0, .ref ot), (1, .int le)]) hx hb dX10_byteFor_5 rfl hl (by decide) rfl (fun ls hl => ?_)
  refine lv_iload_n hx hb dX10_byteFor_6 rfl (lv_at hl 0 rfl) ?_
  refine lv_iconst (v := (-1)) hx hb dX10_byteFor_7 (by decide) ?_
  refine lv_icmp_ne (tgt := 15) hx hb dX10_byteFor_8 (by decide) (fun c_2 => ?_) (fun c_2 => by exfalso; have tc_2 : r_1.toInt = (-1) := v_eq c_2; omega)
  have tc_2 : ¬ r_1.toInt = (-1) := v_ne c_2
  refine lv_aload_n hx hb dX10_byteFor_15 rfl (lv_at hl 1 rfl) ?_
  refine va_get (D := (dC, dI)) (ci := 10) (v := .ref at3) (C := RX10) (T := TX10) (N := 4) hx hb hts in_X10 hown hK hP 0 rfl rfl 2 (Nat.le_of_ble_eq_true rfl) (hts (.fieldLink RX10 18 "TextMender$ToldCode" "placeByte" "[I") (List.mem_of_getElem? (i := 1) rfl)) (fun _ h9 => h9) rfl dX10_byteFor_16 ?_
  refine lv_iload_n hx hb dX10_byteFor_19 rfl (lv_at hl 0 rfl) ?_
  refine va_iald hx hb hK hP 2 0 rfl rfl (v_in (by omega)) dX10_byteFor_20 ?_
  refine lv_topi (fun x_3 ex_3 => ?_)
  exact kl_i (v := x_3) hQQ hx hb hr hlocks hS dX10_byteFor_21 (fun PZ9 kZ9 => kZ9 (⟨hP, hD⟩) (bf_of hT hpf1 (by omega) (by omega) ex_3))

set_option maxHeartbeats 40000000 in
set_option maxRecDepth 100000 in
theorem f_X10_canTake (l : Launch) (dC : Nat → ClassId) (dI : Nat → Nat → Nat) (cI cS : ClassId) (sz : Nat) (ot : Nat) (at1 : Nat) (at2 : Nat) (at3 : Nat) (lt : Int32) (ft1 : Nat → Int32) (ft2 : Nat → Int32) (ft3 : Nat → Int32) (fr : Int32) (n : Int32) (le : Int32) (sp : Int32) (hT : HT 512 511 hsT ft2 ft3) (ho : (occ ft3 512 : Int) ≤ 511) : kMi l yX10_canTake wsX10_canTake ({ frames := 2, cells := 0, slots := 0, locals := 46 } : Room) [.ref ot, .int fr, .int n, .int le, .int sp] sz (dC, dI) vwCl [(cI, .int), (cS, .short)] [(ot, .inr (10, [.ref at1, .ref at2, .ref at3, .int lt])), (at1, .inl (cI, 256, .inl ft1)), (at2, .inl (cI, 512, .inl ft2)), (at3, .inl (cI, 512, .inl ft3))] (va_Nw (.methodLinkNest RX10 35 yX11_isLetter "TextMender")) 0 0 (fun (A : Nat → Prop) (r : Int32) (hh9 : Heap) => ∀ PZ9 : Prop, (kPD (dC, dI) vwCl A [(ot, .inr (10, [.ref at1, .ref at2, .ref at3, .int lt])), (at1, .inl (cI, 256, .inl ft1)), (at2, .inl (cI, 512, .inl ft2)), (at3, .inl (cI, 512, .inl ft3))] hh9 → (0 ≤ r.toInt ∧ r.toInt ≤ 1) → (F_ct r fr n le sp (fun k => ft1 k = -1) (nT ft2 ft3)) → PZ9) → PZ9) := by
  refine kMi_of (cc := cX10_canTake) (maxL := 8) (ret := (some .boolean)) (lv := [(0, .ref ot), (1, .int fr), (2, .int n), (3, .int le), (4, .int sp)]) (by decide +kernel) rfl rfl (Nat.le_of_ble_eq_true rfl) ?_
  intro p e s m below meth c A QQ ls hx hb hr hts hml hown hlocks hA hQQ hK hX hP hD hS hl
  have hown : s.vm.findClass RX10 = some m.cls := hown
  have hcf := k_cf hx hb hml hown hts
  have hN35 := hX
  refine lv_iload_n hx hb dX10_canTake_0 rfl (lv_at hl 1 rfl) ?_
  refine lv_if_lt (tgt := 29) hx hb dX10_canTake_1 (by decide) (fun c_1 => ?_) (fun c_1 => ?_)
  · have tc_1 : fr.toInt < 0 := v_lt c_1
    refine lv_iconst (v := 0) hx hb dX10_canTake_29 (by decide) ?_
    refine lv_istore (lv' := [(5, .int 0), (0, .ref ot), (1, .int fr), (2, .int n), (3, .int le), (4, .int sp)]) hx hb dX10_canTake_30 hl (by decide) rfl (fun ls hl => ?_)
    refine lv_iload hx hb dX10_canTake_32 (lv_at hl 0 rfl) ?_
    refine lv_if_eq (tgt := 60) hx hb dX10_canTake_34 (by decide) (fun c_2 => ?_) (fun c_2 => absurd c_2 (by decide))
    refine lv_iconst (v := 0) hx hb dX10_canTake_60 (by decide) ?_
    exact kl_z (v := 0) hQQ hx hb hr hlocks hS dX10_canTake_61 (rfl) (fun PZ9 kZ9 => kZ9 (⟨hP, hD⟩) (by decide) (Or.inr ⟨rfl, fun h => by have h1 := h.1; unfold isLz at h1; omega⟩))
  · have tc_1 : 0 ≤ fr.toInt := v_nlt c_1
    refine lv_iload_n hx hb dX10_canTake_4 rfl (lv_at hl 1 rfl) ?_
    refine lv_sipush (v := 256) hx hb dX10_canTake_5 (by decide) ?_
    refine lv_icmp_ge (tgt := 29) hx hb dX10_canTake_8 (by decide) (fun c_3 => ?_) (fun c_3 => ?_)
    · have tc_3 : 256 ≤ fr.toInt := v_le c_3
      refine lv_iconst (v := 0) hx hb dX10_canTake_29 (by decide) ?_
      refine lv_istore (lv' := [(5, .int 0), (0, .ref ot), (1, .int fr), (2, .int n), (3, .int le), (4, .int sp)]) hx hb dX10_canTake_30 hl (by decide) rfl (fun ls hl => ?_)
      refine lv_iload hx hb dX10_canTake_32 (lv_at hl 0 rfl) ?_
      refine lv_if_eq (tgt := 60) hx hb dX10_canTake_34 (by decide) (fun c_4 => ?_) (fun c_4 => absurd c_4 (by decide))
      refine lv_iconst (v := 0) hx hb dX10_canTake_60 (by decide) ?_
      exact kl_z (v := 0) hQQ hx hb hr hlocks hS dX10_canTake_61 (rfl) (fun PZ9 kZ9 => kZ9 (⟨hP, hD⟩) (by decide) (Or.inr ⟨rfl, fun h => by have h1 := h.1; unfold isLz at h1; omega⟩))
    · have tc_3 : fr.toInt < 256 := v_nle c_3
      refine lv_iload_n hx hb dX10_canTake_11 rfl (lv_at hl 2 rfl) ?_
      refine lv_iconst (v := 1) hx hb dX10_canTake_12 (by decide) ?_
      refine lv_icmp_lt (tgt := 29) hx hb dX10_canTake_13 (by decide) (fun c_5 => ?_) (fun c_5 => ?_)
      · have tc_5 : n.toInt < 1 := v_lt c_5
        refine lv_iconst (v := 0) hx hb dX10_canTake_29 (by decide) ?_
        refine lv_istore (lv' := [(5, .int 0), (0, .ref ot), (1, .int fr), (2, .int n), (3, .int le), (4, .int sp)]) hx hb dX10_canTake_30 hl (by decide) rfl (fun ls hl => ?_)
        refine lv_iload hx hb dX10_canTake_32 (lv_at hl 0 rfl) ?_
        refine lv_if_eq (tgt := 60) hx hb dX10_canTake_34 (by decide) (fun c_6 => ?_) (fun c_6 => absurd c_6 (by decide))
        refine lv_iconst (v := 0) hx hb dX10_canTake_60 (by decide) ?_
        exact kl_z (v := 0) hQQ hx hb hr hlocks hS dX10_canTake_61 (rfl) (fun PZ9 kZ9 => kZ9 (⟨hP, hD⟩) (by decide) (Or.inr ⟨rfl, fun h => by have h1 := h.1; unfold isLz at h1; omega⟩))
      · have tc_5 : 1 ≤ n.toInt := v_nlt c_5
        refine lv_iload_n hx hb dX10_canTake_16 rfl (lv_at hl 2 rfl) ?_
        refine lv_sipush (v := 256) hx hb dX10_canTake_17 (by decide) ?_
        refine lv_iload_n hx hb dX10_canTake_20 rfl (lv_at hl 1 rfl) ?_
        refine lv_isub hx hb dX10_canTake_21 ?_
        refine lv_topi (fun x_7 ex_7 => ?_)
        have tx_7 : x_7.toInt = 256 - fr.toInt := v_sub ex_7 (by show -2147483648 ≤ 256 - fr.toInt; omega) (by show 256 - fr.toInt < 2147483648; omega)
        refine lv_icmp_gt (tgt := 29) hx hb dX10_canTake_22 (by decide) (fun c_8 => ?_) (fun c_8 => ?_)
        · have tc_8 : x_7.toInt < n.toInt := v_lt c_8
          have rw8_0 := v_rng n
          refine lv_iconst (v := 0) hx hb dX10_canTake_29 (by decide) ?_
          refine lv_istore (lv' := [(5, .int 0), (0, .ref ot), (1, .int fr), (2, .int n), (3, .int le), (4, .int sp)]) hx hb dX10_canTake_30 hl (by decide) rfl (fun ls hl => ?_)
          refine lv_iload hx hb dX10_canTake_32 (lv_at hl 0 rfl) ?_
          refine lv_if_eq (tgt := 60) hx hb dX10_canTake_34 (by decide) (fun c_9 => ?_) (fun c_9 => absurd c_9 (by decide))
          refine lv_iconst (v := 0) hx hb dX10_canTake_60 (by decide) ?_
          exact kl_z (v := 0) hQQ hx hb hr hlocks hS dX10_canTake_61 (rfl) (fun PZ9 kZ9 => kZ9 (⟨hP, hD⟩) (by decide) (Or.inr ⟨rfl, fun h => by have h1 := h.1; unfold isLz at h1; omega⟩))
        · have tc_8 : n.toInt ≤ x_7.toInt := v_nlt c_8
          have rw8_0 := v_rng n
          refine lv_iconst (v := 1) hx hb dX10_canTake_25 (by decide) ?_
          refine lv_goto (tgt := 30) hx hb dX10_canTake_26 (by decide) ?_
          refine lv_istore (lv' := [(5, .int 1), (0, .ref ot), (1, .int fr), (2, .int n), (3, .int le), (4, .int sp)]) hx hb dX10_canTake_30 hl (by decide) rfl (fun ls hl => ?_)
          refine lv_iload hx hb dX10_canTake_32 (lv_at hl 0 rfl) ?_
          refine lv_if_eq (tgt := 60) hx hb dX10_canTake_34 (by decide) (fun c_10 => absurd c_10 (by decide)) (fun c_10 => ?_)
          refine lv_iload hx hb dX10_canTake_37 (lv_at hl 5 rfl) ?_
          refine lv_sipush (v := (-255)) hx hb dX10_canTake_39 (by decide) ?_
          refine lv_icmp_lt (tgt := 60) hx hb dX10_canTake_42 (by decide) (fun c_11 => ?_) (fun c_11 => ?_)
          · have tc_11 : sp.toInt < (-255) := v_lt c_11
            refine lv_iconst (v := 0) hx hb dX10_canTake_60 (by decide) ?_
            exact kl_z (v := 0) hQQ hx hb hr hlocks hS dX10_canTake_61 (rfl) (fun PZ9 kZ9 => kZ9 (⟨hP, hD⟩) (by decide) (Or.inr ⟨rfl, fun h => by have h1 := h.1; unfold isLz at h1; omega⟩))
          · have tc_11 : (-255) ≤ sp.toInt := v_nlt c_11
            refine lv_iload hx hb dX10_canTake_45 (lv_at hl 5 rfl) ?_
            refine lv_sipush (v := 255) hx hb dX10_canTake_47 (by decide) ?_
            refine lv_icmp_gt (tgt := 60) hx hb dX10_canTake_50 (by decide) (fun c_12 => ?_) (fun c_12 => ?_)
            · have tc_12 : 255 < sp.toInt := v_lt c_12
              refine lv_iconst (v := 0) hx hb dX10_canTake_60 (by decide) ?_
              exact kl_z (v := 0) hQQ hx hb hr hlocks hS dX10_canTake_61 (rfl) (fun PZ9 kZ9 => kZ9 (⟨hP, hD⟩) (by decide) (Or.inr ⟨rfl, fun h => by have h1 := h.1; unfold isLz at h1; omega⟩))
            · have tc_12 : sp.toInt ≤ 255 := v_nlt c_12
              refine lv_iload_n hx hb dX10_canTake_53 rfl (lv_at hl 4 rfl) ?_
              refine kSN_i (rest := []) hcf (m_X11_isLetter l dC dI cI cS s.heap.size le ) ⟨va_cnB 1 hts gX10_canTake_X11_isLetter_n35 rfl rfl rfl hN35 (hts (.initialized RX11) (List.mem_of_getElem? (i := 2) rfl)) (by decide +kernel) ⟨Nat.le_of_ble_eq_true rfl, Nat.le_of_ble_eq_true rfl⟩, (hts (.static yX11_isLetter) (List.mem_of_getElem? (i := 1) rfl)), trivial⟩ kX_t hK hP hD hS hA [] [0, 1, 2, 3] rfl (by decide +kernel) rfl hl rfl (Nat.le_of_ble_eq_true rfl) dX10_canTake_54 ⟨Nat.le_of_ble_eq_true rfl, Nat.le_of_ble_eq_true rfl⟩ (fun r_13 H locs hB hJ hSn => ?_)
              refine hB _ (fun hPD9 hf13_0 hf13_1 => ?_)
              clear hB
              obtain ⟨hPn, hDn⟩ := hJ _ hPD9.1 hPD9.2 [(ot, .inr (10, [.ref at1, .ref at2, .ref at3, .int lt])), (at1, .inl (cI, 256, .inl ft1)), (at2, .inl (cI, 512, .inl ft2)), (at3, .inl (cI, 512, .inl ft3))] rfl
              clear hP hD hS hJ hPD9
              have hP := hPn
              have hD := hDn
              have hS := hSn
              clear hPn hDn hSn
              refine lv_if_ne (tgt := 62) hx hb dX10_canTake_57 (by decide) (fun c_14 => ?_) (fun c_14 => ?_)
              · have tc_14 : ¬ r_13.toInt = 0 := v_ne c_14
                refine lv_iload hx hb dX10_canTake_62 (lv_at hl 5 rfl) ?_
                refine lv_if_ne (tgt := 74) hx hb dX10_canTake_64 (by decide) (fun c_15 => ?_) (fun c_15 => ?_)
                · have tc_15 : ¬ sp.toInt = 0 := v_ne c_15
                  refine lv_iconst (v := 0) hx hb dX10_canTake_74 (by decide) ?_
                  refine lv_istore (lv' := [(6, .int 0), (5, .int 1), (0, .ref ot), (1, .int fr), (2, .int n), (3, .int le), (4, .int sp)]) hx hb dX10_canTake_75 hl (by decide) rfl (fun ls hl => ?_)
                  have LOOP_77 : ∀ (k_77 : Nat) (i : Int32) (H : Heap) (locs : List Loc) (ls : Array Slot), MSd (n.toInt - i.toInt : Int) k_77 → (0 ≤ i.toInt ∧ i.toInt ≤ 256) → (CTk i.toInt fr le sp (fun k => ft1 k = -1) (nT ft2 ft3)) → va_P (dC, dI) vwCl [(ot, .inr (10, [.ref at1, .ref at2, .ref at3, .int lt])), (at1, .inl (cI, 256, .inl ft1)), (at2, .inl (cI, 512, .inl ft2)), (at3, .inl (cI, 512, .inl ft3))] H → va_D A [(ot, .inr (10, [.ref at1, .ref at2, .ref at3, .int lt])), (at1, .inl (cI, 256, .inl ft1)), (at2, .inl (cI, 512, .inl ft2)), (at3, .inl (cI, 512, .inl ft3))] → va_S A s.heap H locs → lv_has ls 8 [(6, .int i), (0, .ref ot), (1, .int fr), (2, .int n), (3, .int le), (4, .int sp)] → W p l e (headSpec wsX10_canTake ({ frames := 2, cells := 0, slots := 0, locals := 46 } : Room)).room s m ([.ref ot, .int fr, .int n, .int le, .int sp] : List Value).toArray below meth c H locs 0 0 (MQ below QQ ([.ref ot, .int fr, .int n, .int le, .int sp] : List Value).toArray s 0 0 A) (F0 m 77 ls []) := by
                    clear hP hD hS hl
                    intro k_77
                    induction k_77 with
                    | zero =>
                      intro i H locs ls hm_77 g_i hct hP hD hS hl
                      exact ms_0 hm_77
                    | succ k_77 ih_77 =>
                      intro i H locs ls hm_77 g_i hct hP hD hS hl
                      refine lv_iload hx hb dX10_canTake_77 (lv_at hl 0 rfl) ?_
                      refine lv_iload_n hx hb dX10_canTake_79 rfl (lv_at hl 3 rfl) ?_
                      refine lv_icmp_ge (tgt := 130) hx hb dX10_canTake_80 (by decide) (fun c_16 => ?_) (fun c_16 => ?_)
                      · have tc_16 : n.toInt ≤ i.toInt := v_le c_16
                        refine lv_iconst (v := 1) hx hb dX10_canTake_130 (by decide) ?_
                        exact kl_z (v := 1) hQQ hx hb hr hlocks hS dX10_canTake_131 (rfl) (fun PZ9 kZ9 => kZ9 (⟨hP, hD⟩) (by decide) (Or.inl ⟨rfl, by unfold isLz; omega, CTk_le hct (by omega)⟩))
                      · have tc_16 : i.toInt < n.toInt := v_nle c_16
                        refine lv_iload_n hx hb dX10_canTake_83 rfl (lv_at hl 4 rfl) ?_
                        refine lv_iload hx hb dX10_canTake_84 (lv_at hl 0 rfl) ?_
                        refine lv_iload hx hb dX10_canTake_86 (lv_at hl 5 rfl) ?_
                        refine lv_imul hx hb dX10_canTake_88 ?_
                        refine lv_topi (fun x_17 ex_17 => ?_)
                        refine lv_iadd hx hb dX10_canTake_89 ?_
                        refine lv_topi (fun x_18 ex_18 => ?_)
                        have rv18_0 := v_rng le
                        have rv18_1 := v_rng x_17
                        refine lv_istore (lv' := [(7, .int x_18), (6, .int i), (0, .ref ot), (1, .int fr), (2, .int n), (3, .int le), (4, .int sp)]) hx hb dX10_canTake_90 hl (by decide) rfl (fun ls hl => ?_)
                        refine lv_iload hx hb dX10_canTake_92 (lv_at hl 0 rfl) ?_
                        refine kSN_i (rest := []) hcf (m_X11_isLetter l dC dI cI cS H.size x_18 ) ⟨va_cnB 1 hts gX10_canTake_X11_isLetter_n35 rfl rfl rfl hN35 (hts (.initialized RX11) (List.mem_of_getElem? (i := 2) rfl)) (by decide +kernel) ⟨Nat.le_of_ble_eq_true rfl, Nat.le_of_ble_eq_true rfl⟩, (hts (.static yX11_isLetter) (List.mem_of_getElem? (i := 1) rfl)), trivial⟩ kX_t hK hP hD hS hA [] [0, 1, 2, 3] rfl (by decide +kernel) rfl hl rfl (Nat.le_of_ble_eq_true rfl) dX10_canTake_94 ⟨Nat.le_of_ble_eq_true rfl, Nat.le_of_ble_eq_true rfl⟩ (fun r_19 H locs hB hJ hSn => ?_)
                        refine hB _ (fun hPD9 hf19_0 hf19_1 => ?_)
                        clear hB
                        obtain ⟨hPn, hDn⟩ := hJ _ hPD9.1 hPD9.2 [(ot, .inr (10, [.ref at1, .ref at2, .ref at3, .int lt])), (at1, .inl (cI, 256, .inl ft1)), (at2, .inl (cI, 512, .inl ft2)), (at3, .inl (cI, 512, .inl ft3))] rfl
                        clear hP hD hS hJ hPD9
                        have hP := hPn
                        have hD := hDn
                        have hS := hSn
                        clear hPn hDn hSn
                        refine lv_if_eq (tgt := 122) hx hb dX10_canTake_97 (by decide) (fun c_20 => ?_) (fun c_20 => ?_)
                        · have tc_20 : r_19.toInt = 0 := v_eq c_20
                          refine lv_iconst (v := 0) hx hb dX10_canTake_122 (by decide) ?_
                          exact kl_z (v := 0) hQQ hx hb hr hlocks hS dX10_canTake_123 (rfl) (fun PZ9 kZ9 => kZ9 (⟨hP, hD⟩) (by decide) (Or.inr ⟨rfl, CT_no ex_17 ex_18 (by omega) (by omega) (fun z => by have z1 := z.1; unfold isLz at z1; omega)⟩))
                        · have tc_20 : ¬ r_19.toInt = 0 := v_ne c_20
                          refine lv_aload_n hx hb dX10_canTake_100 rfl (lv_at hl 2 rfl) ?_
                          refine lv_iload_n hx hb dX10_canTake_101 rfl (lv_at hl 3 rfl) ?_
                          refine lv_iload hx hb dX10_canTake_102 (lv_at hl 1 rfl) ?_
                          refine lv_iadd hx hb dX10_canTake_104 ?_
                          refine lv_topi (fun x_21 ex_21 => ?_)
                          have tx_21 : x_21.toInt = fr.toInt + i.toInt := v_add ex_21 (by show -2147483648 ≤ fr.toInt + i.toInt; omega) (by show fr.toInt + i.toInt < 2147483648; omega)
                          refine kV_i (rest := []) (q0 := 0) (ci := 10) hcf (m_X10_letterFor l dC dI cI cS H.size ot at1 at2 at3 lt ft1 x_21 ) kc_X10_letterFor gX10_canTake_X10_letterFor rfl rfl rfl ⟨Nat.le_of_ble_eq_true rfl, Nat.le_of_ble_eq_true rfl⟩ kX_t hK hP hD hS hA [0, 1] [2, 3] rfl (by decide +kernel) rfl rfl rfl hl rfl (Nat.le_of_ble_eq_true rfl) dX10_canTake_105 ⟨Nat.le_of_ble_eq_true rfl, Nat.le_of_ble_eq_true rfl⟩ (fun r_22 H locs hB hJ hSn => ?_)
                          refine hB _ (fun hPD9 hf22_0 => ?_)
                          clear hB
                          obtain ⟨hPn, hDn⟩ := hJ _ hPD9.1 hPD9.2 [(at2, .inl (cI, 512, .inl ft2)), (at3, .inl (cI, 512, .inl ft3)), (ot, .inr (10, [.ref at1, .ref at2, .ref at3, .int lt])), (at1, .inl (cI, 256, .inl ft1))] rfl
                          clear hP hD hS hJ hPD9
                          have hP := hPn
                          have hD := hDn
                          have hS := hSn
                          clear hPn hDn hSn
                          refine lv_iconst (v := (-1)) hx hb dX10_canTake_108 (by decide) ?_
                          refine lv_icmp_ne (tgt := 122) hx hb dX10_canTake_109 (by decide) (fun c_23 => ?_) (fun c_23 => ?_)
                          · have tc_23 : ¬ r_22.toInt = (-1) := v_ne c_23
                            refine lv_iconst (v := 0) hx hb dX10_canTake_122 (by decide) ?_
                            exact kl_z (v := 0) hQQ hx hb hr hlocks hS dX10_canTake_123 (rfl) (fun PZ9 kZ9 => kZ9 (kPD_sub hP hD [2, 3, 0, 1] (by decide +kernel) rfl) (by decide) (Or.inr ⟨rfl, CT_no ex_17 ex_18 (by omega) (by omega) (fun z => c_23 ((get_free (w := (fr.toInt + i.toInt).toNat) hf22_0 (by omega) (by omega) (by omega)).symm.trans z.2.1))⟩))
                          · have tc_23 : r_22.toInt = (-1) := v_eq c_23
                            refine lv_aload_n hx hb dX10_canTake_112 rfl (lv_at hl 2 rfl) ?_
                            refine lv_iload hx hb dX10_canTake_113 (lv_at hl 0 rfl) ?_
                            refine kV_i (rest := []) (q0 := 0) (ci := 10) hcf (f_X10_byteFor l dC dI cI cS H.size ot at1 at2 at3 lt ft2 ft3 x_18 (hT) (ho)) kc_X10_byteFor gX10_canTake_X10_byteFor rfl rfl rfl ⟨Nat.le_of_ble_eq_true rfl, Nat.le_of_ble_eq_true rfl⟩ kX_t hK hP hD hS hA [2, 0, 1] [3] rfl (by decide +kernel) rfl rfl rfl hl rfl (Nat.le_of_ble_eq_true rfl) dX10_canTake_115 ⟨Nat.le_of_ble_eq_true rfl, Nat.le_of_ble_eq_true rfl⟩ (fun r_24 H locs hB hJ hSn => ?_)
                            refine hB _ (fun hPD9 hf24_0 => ?_)
                            clear hB
                            obtain ⟨hPn, hDn⟩ := hJ _ hPD9.1 hPD9.2 [(at1, .inl (cI, 256, .inl ft1)), (ot, .inr (10, [.ref at1, .ref at2, .ref at3, .int lt])), (at2, .inl (cI, 512, .inl ft2)), (at3, .inl (cI, 512, .inl ft3))] rfl
                            clear hP hD hS hJ hPD9
                            have hP := hPn
                            have hD := hDn
                            have hS := hSn
                            clear hPn hDn hSn
                            refine lv_iconst (v := (-1)) hx hb dX10_canTake_118 (by decide) ?_
                            refine lv_icmp_eq (tgt := 124) hx hb dX10_canTake_119 (by decide) (fun c_25 => ?_) (fun c_25 => ?_)
                            · have tc_25 : r_24.toInt = (-1) := v_eq c_25
                              obtain ⟨x_26, ex_26⟩ : ∃ y : Int32, y = i + 1 := ⟨_, rfl⟩
                              have tx_26 : x_26.toInt = i.toInt + 1 := v_addR (l2 := 1) (h2 := 1) ex_26 g_i (by decide) (by decide) (by decide)
                              refine lv_iinc (v := x_26) (lv' := [(6, .int x_26), (7, .int x_18), (0, .ref ot), (1, .int fr), (2, .int n), (3, .int le), (4, .int sp)]) hx hb dX10_canTake_124 hl (k := 1) rfl (by rw [ex_26]; rfl) (by decide) rfl (fun ls hl => ?_)
                              refine lv_goto (tgt := 77) hx hb dX10_canTake_127 (by decide) ?_
                              exact ih_77 x_26 _ _ _ (ms_lt hm_77 (by show ((n.toInt - x_26.toInt : Int)) < n.toInt - i.toInt; omega) (by show (0 : Int) < n.toInt - i.toInt; omega)) (by show 0 ≤ x_26.toInt ∧ x_26.toInt ≤ 256; omega) (CTk_s hct ex_17 ex_18 (by omega) (by unfold isLz; omega) ((get_free (w := (fr.toInt + i.toInt).toNat) hf22_0 (by omega) (by omega) (by omega)).trans c_23) (bf_none hf24_0 c_25)) (hP.sub [1, 0, 2, 3] rfl) (hD.sub [1, 0, 2, 3] (by decide +kernel) rfl) hS (lv_sub hl [0, 2, 3, 4, 5, 6] rfl)
                            · have tc_25 : ¬ r_24.toInt = (-1) := v_ne c_25
                              refine lv_iconst (v := 0) hx hb dX10_canTake_122 (by decide) ?_
                              exact kl_z (v := 0) hQQ hx hb hr hlocks hS dX10_canTake_123 (rfl) (fun PZ9 kZ9 => kZ9 (kPD_sub hP hD [1, 0, 2, 3] (by decide +kernel) rfl) (by decide) (Or.inr ⟨rfl, CT_no ex_17 ex_18 (by omega) (by omega) (fun z => bf_some hf24_0 c_25 z.2.2)⟩))
                  exact LOOP_77 _ 0 _ _ _ (ms_s _) (by decide) (CTk_0 (by decide)) hP hD hS (lv_sub hl [0, 2, 3, 4, 5, 6] rfl)
                · have tc_15 : sp.toInt = 0 := v_eq c_15
                  refine lv_iload_n hx hb dX10_canTake_67 rfl (lv_at hl 3 rfl) ?_
                  refine lv_iconst (v := 1) hx hb dX10_canTake_68 (by decide) ?_
                  refine lv_icmp_le (tgt := 74) hx hb dX10_canTake_69 (by decide) (fun c_27 => ?_) (fun c_27 => ?_)
                  · have tc_27 : n.toInt ≤ 1 := v_le c_27
                    refine lv_iconst (v := 0) hx hb dX10_canTake_74 (by decide) ?_
                    refine lv_istore (lv' := [(6, .int 0), (5, .int 1), (0, .ref ot), (1, .int fr), (2, .int n), (3, .int le), (4, .int sp)]) hx hb dX10_canTake_75 hl (by decide) rfl (fun ls hl => ?_)
                    have LOOP_77 : ∀ (k_77 : Nat) (i : Int32) (H : Heap) (locs : List Loc) (ls : Array Slot), MSd (n.toInt - i.toInt : Int) k_77 → (0 ≤ i.toInt ∧ i.toInt ≤ 256) → (CTk i.toInt fr le sp (fun k => ft1 k = -1) (nT ft2 ft3)) → va_P (dC, dI) vwCl [(ot, .inr (10, [.ref at1, .ref at2, .ref at3, .int lt])), (at1, .inl (cI, 256, .inl ft1)), (at2, .inl (cI, 512, .inl ft2)), (at3, .inl (cI, 512, .inl ft3))] H → va_D A [(ot, .inr (10, [.ref at1, .ref at2, .ref at3, .int lt])), (at1, .inl (cI, 256, .inl ft1)), (at2, .inl (cI, 512, .inl ft2)), (at3, .inl (cI, 512, .inl ft3))] → va_S A s.heap H locs → lv_has ls 8 [(6, .int i), (0, .ref ot), (1, .int fr), (2, .int n), (3, .int le), (4, .int sp)] → W p l e (headSpec wsX10_canTake ({ frames := 2, cells := 0, slots := 0, locals := 46 } : Room)).room s m ([.ref ot, .int fr, .int n, .int le, .int sp] : List Value).toArray below meth c H locs 0 0 (MQ below QQ ([.ref ot, .int fr, .int n, .int le, .int sp] : List Value).toArray s 0 0 A) (F0 m 77 ls []) := by
                      clear hP hD hS hl
                      intro k_77
                      induction k_77 with
                      | zero =>
                        intro i H locs ls hm_77 g_i hct hP hD hS hl
                        exact ms_0 hm_77
                      | succ k_77 ih_77 =>
                        intro i H locs ls hm_77 g_i hct hP hD hS hl
                        refine lv_iload hx hb dX10_canTake_77 (lv_at hl 0 rfl) ?_
                        refine lv_iload_n hx hb dX10_canTake_79 rfl (lv_at hl 3 rfl) ?_
                        refine lv_icmp_ge (tgt := 130) hx hb dX10_canTake_80 (by decide) (fun c_28 => ?_) (fun c_28 => ?_)
                        · have tc_28 : n.toInt ≤ i.toInt := v_le c_28
                          refine lv_iconst (v := 1) hx hb dX10_canTake_130 (by decide) ?_
                          exact kl_z (v := 1) hQQ hx hb hr hlocks hS dX10_canTake_131 (rfl) (fun PZ9 kZ9 => kZ9 (⟨hP, hD⟩) (by decide) (Or.inl ⟨rfl, by unfold isLz; omega, CTk_le hct (by omega)⟩))
                        · have tc_28 : i.toInt < n.toInt := v_nle c_28
                          refine lv_iload_n hx hb dX10_canTake_83 rfl (lv_at hl 4 rfl) ?_
                          refine lv_iload hx hb dX10_canTake_84 (lv_at hl 0 rfl) ?_
                          refine lv_iload hx hb dX10_canTake_86 (lv_at hl 5 rfl) ?_
                          refine lv_imul hx hb dX10_canTake_88 ?_
                          refine lv_topi (fun x_29 ex_29 => ?_)
                          refine lv_iadd hx hb dX10_canTake_89 ?_
                          refine lv_topi (fun x_30 ex_30 => ?_)
                          have rv30_0 := v_rng le
                          have rv30_1 := v_rng x_29
                          refine lv_istore (lv' := [(7, .int x_30), (6, .int i), (0, .ref ot), (1, .int fr), (2, .int n), (3, .int le), (4, .int sp)]) hx hb dX10_canTake_90 hl (by decide) rfl (fun ls hl => ?_)
                          refine lv_iload hx hb dX10_canTake_92 (lv_at hl 0 rfl) ?_
                          refine kSN_i (rest := []) hcf (m_X11_isLetter l dC dI cI cS H.size x_30 ) ⟨va_cnB 1 hts gX10_canTake_X11_isLetter_n35 rfl rfl rfl hN35 (hts (.initialized RX11) (List.mem_of_getElem? (i := 2) rfl)) (by decide +kernel) ⟨Nat.le_of_ble_eq_true rfl, Nat.le_of_ble_eq_true rfl⟩, (hts (.static yX11_isLetter) (List.mem_of_getElem? (i := 1) rfl)), trivial⟩ kX_t hK hP hD hS hA [] [0, 1, 2, 3] rfl (by decide +kernel) rfl hl rfl (Nat.le_of_ble_eq_true rfl) dX10_canTake_94 ⟨Nat.le_of_ble_eq_true rfl, Nat.le_of_ble_eq_true rfl⟩ (fun r_31 H locs hB hJ hSn => ?_)
                          refine hB _ (fun hPD9 hf31_0 hf31_1 => ?_)
                          clear hB
                          obtain ⟨hPn, hDn⟩ := hJ _ hPD9.1 hPD9.2 [(ot, .inr (10, [.ref at1, .ref at2, .ref at3, .int lt])), (at1, .inl (cI, 256, .inl ft1)), (at2, .inl (cI, 512, .inl ft2)), (at3, .inl (cI, 512, .inl ft3))] rfl
                          clear hP hD hS hJ hPD9
                          have hP := hPn
                          have hD := hDn
                          have hS := hSn
                          clear hPn hDn hSn
                          refine lv_if_eq (tgt := 122) hx hb dX10_canTake_97 (by decide) (fun c_32 => ?_) (fun c_32 => ?_)
                          · have tc_32 : r_31.toInt = 0 := v_eq c_32
                            refine lv_iconst (v := 0) hx hb dX10_canTake_122 (by decide) ?_
                            exact kl_z (v := 0) hQQ hx hb hr hlocks hS dX10_canTake_123 (rfl) (fun PZ9 kZ9 => kZ9 (⟨hP, hD⟩) (by decide) (Or.inr ⟨rfl, CT_no ex_29 ex_30 (by omega) (by omega) (fun z => by have z1 := z.1; unfold isLz at z1; omega)⟩))
                          · have tc_32 : ¬ r_31.toInt = 0 := v_ne c_32
                            refine lv_aload_n hx hb dX10_canTake_100 rfl (lv_at hl 2 rfl) ?_
                            refine lv_iload_n hx hb dX10_canTake_101 rfl (lv_at hl 3 rfl) ?_
                            refine lv_iload hx hb dX10_canTake_102 (lv_at hl 1 rfl) ?_
                            refine lv_iadd hx hb dX10_canTake_104 ?_
                            refine lv_topi (fun x_33 ex_33 => ?_)
                            have tx_33 : x_33.toInt = fr.toInt + i.toInt := v_add ex_33 (by show -2147483648 ≤ fr.toInt + i.toInt; omega) (by show fr.toInt + i.toInt < 2147483648; omega)
                            refine kV_i (rest := []) (q0 := 0) (ci := 10) hcf (m_X10_letterFor l dC dI cI cS H.size ot at1 at2 at3 lt ft1 x_33 ) kc_X10_letterFor gX10_canTake_X10_letterFor rfl rfl rfl ⟨Nat.le_of_ble_eq_true rfl, Nat.le_of_ble_eq_true rfl⟩ kX_t hK hP hD hS hA [0, 1] [2, 3] rfl (by decide +kernel) rfl rfl rfl hl rfl (Nat.le_of_ble_eq_true rfl) dX10_canTake_105 ⟨Nat.le_of_ble_eq_true rfl, Nat.le_of_ble_eq_true rfl⟩ (fun r_34 H locs hB hJ hSn => ?_)
                            refine hB _ (fun hPD9 hf34_0 => ?_)
                            clear hB
                            obtain ⟨hPn, hDn⟩ := hJ _ hPD9.1 hPD9.2 [(at2, .inl (cI, 512, .inl ft2)), (at3, .inl (cI, 512, .inl ft3)), (ot, .inr (10, [.ref at1, .ref at2, .ref at3, .int lt])), (at1, .inl (cI, 256, .inl ft1))] rfl
                            clear hP hD hS hJ hPD9
                            have hP := hPn
                            have hD := hDn
                            have hS := hSn
                            clear hPn hDn hSn
                            refine lv_iconst (v := (-1)) hx hb dX10_canTake_108 (by decide) ?_
                            refine lv_icmp_ne (tgt := 122) hx hb dX10_canTake_109 (by decide) (fun c_35 => ?_) (fun c_35 => ?_)
                            · have tc_35 : ¬ r_34.toInt = (-1) := v_ne c_35
                              refine lv_iconst (v := 0) hx hb dX10_canTake_122 (by decide) ?_
                              exact kl_z (v := 0) hQQ hx hb hr hlocks hS dX10_canTake_123 (rfl) (fun PZ9 kZ9 => kZ9 (kPD_sub hP hD [2, 3, 0, 1] (by decide +kernel) rfl) (by decide) (Or.inr ⟨rfl, CT_no ex_29 ex_30 (by omega) (by omega) (fun z => c_35 ((get_free (w := (fr.toInt + i.toInt).toNat) hf34_0 (by omega) (by omega) (by omega)).symm.trans z.2.1))⟩))
                            · have tc_35 : r_34.toInt = (-1) := v_eq c_35
                              refine lv_aload_n hx hb dX10_canTake_112 rfl (lv_at hl 2 rfl) ?_
                              refine lv_iload hx hb dX10_canTake_113 (lv_at hl 0 rfl) ?_
                              refine kV_i (rest := []) (q0 := 0) (ci := 10) hcf (f_X10_byteFor l dC dI cI cS H.size ot at1 at2 at3 lt ft2 ft3 x_30 (hT) (ho)) kc_X10_byteFor gX10_canTake_X10_byteFor rfl rfl rfl ⟨Nat.le_of_ble_eq_true rfl, Nat.le_of_ble_eq_true rfl⟩ kX_t hK hP hD hS hA [2, 0, 1] [3] rfl (by decide +kernel) rfl rfl rfl hl rfl (Nat.le_of_ble_eq_true rfl) dX10_canTake_115 ⟨Nat.le_of_ble_eq_true rfl, Nat.le_of_ble_eq_true rfl⟩ (fun r_36 H locs hB hJ hSn => ?_)
                              refine hB _ (fun hPD9 hf36_0 => ?_)
                              clear hB
                              obtain ⟨hPn, hDn⟩ := hJ _ hPD9.1 hPD9.2 [(at1, .inl (cI, 256, .inl ft1)), (ot, .inr (10, [.ref at1, .ref at2, .ref at3, .int lt])), (at2, .inl (cI, 512, .inl ft2)), (at3, .inl (cI, 512, .inl ft3))] rfl
                              clear hP hD hS hJ hPD9
                              have hP := hPn
                              have hD := hDn
                              have hS := hSn
                              clear hPn hDn hSn
                              refine lv_iconst (v := (-1)) hx hb dX10_canTake_118 (by decide) ?_
                              refine lv_icmp_eq (tgt := 124) hx hb dX10_canTake_119 (by decide) (fun c_37 => ?_) (fun c_37 => ?_)
                              · have tc_37 : r_36.toInt = (-1) := v_eq c_37
                                obtain ⟨x_38, ex_38⟩ : ∃ y : Int32, y = i + 1 := ⟨_, rfl⟩
                                have tx_38 : x_38.toInt = i.toInt + 1 := v_addR (l2 := 1) (h2 := 1) ex_38 g_i (by decide) (by decide) (by decide)
                                refine lv_iinc (v := x_38) (lv' := [(6, .int x_38), (7, .int x_30), (0, .ref ot), (1, .int fr), (2, .int n), (3, .int le), (4, .int sp)]) hx hb dX10_canTake_124 hl (k := 1) rfl (by rw [ex_38]; rfl) (by decide) rfl (fun ls hl => ?_)
                                refine lv_goto (tgt := 77) hx hb dX10_canTake_127 (by decide) ?_
                                exact ih_77 x_38 _ _ _ (ms_lt hm_77 (by show ((n.toInt - x_38.toInt : Int)) < n.toInt - i.toInt; omega) (by show (0 : Int) < n.toInt - i.toInt; omega)) (by show 0 ≤ x_38.toInt ∧ x_38.toInt ≤ 256; omega) (CTk_s hct ex_29 ex_30 (by omega) (by unfold isLz; omega) ((get_free (w := (fr.toInt + i.toInt).toNat) hf34_0 (by omega) (by omega) (by omega)).trans c_35) (bf_none hf36_0 c_37)) (hP.sub [1, 0, 2, 3] rfl) (hD.sub [1, 0, 2, 3] (by decide +kernel) rfl) hS (lv_sub hl [0, 2, 3, 4, 5, 6] rfl)
                              · have tc_37 : ¬ r_36.toInt = (-1) := v_ne c_37
                                refine lv_iconst (v := 0) hx hb dX10_canTake_122 (by decide) ?_
                                exact kl_z (v := 0) hQQ hx hb hr hlocks hS dX10_canTake_123 (rfl) (fun PZ9 kZ9 => kZ9 (kPD_sub hP hD [1, 0, 2, 3] (by decide +kernel) rfl) (by decide) (Or.inr ⟨rfl, CT_no ex_29 ex_30 (by omega) (by omega) (fun z => bf_some hf36_0 c_37 z.2.2)⟩))
                    exact LOOP_77 _ 0 _ _ _ (ms_s _) (by decide) (CTk_0 (by decide)) hP hD hS (lv_sub hl [0, 2, 3, 4, 5, 6] rfl)
                  · have tc_27 : 1 < n.toInt := v_nle c_27
                    refine lv_iconst (v := 0) hx hb dX10_canTake_72 (by decide) ?_
                    exact kl_z (v := 0) hQQ hx hb hr hlocks hS dX10_canTake_73 (rfl) (fun PZ9 kZ9 => kZ9 (⟨hP, hD⟩) (by decide) (Or.inr ⟨rfl, fun h => by have h1 := h.1; unfold isLz at h1; omega⟩))
              · have tc_14 : r_13.toInt = 0 := v_eq c_14
                refine lv_iconst (v := 0) hx hb dX10_canTake_60 (by decide) ?_
                exact kl_z (v := 0) hQQ hx hb hr hlocks hS dX10_canTake_61 (rfl) (fun PZ9 kZ9 => kZ9 (⟨hP, hD⟩) (by decide) (Or.inr ⟨rfl, fun h => by have h1 := h.1; unfold isLz at h1; omega⟩))

set_option maxHeartbeats 40000000 in
set_option maxRecDepth 100000 in
theorem f_X10_tell (l : Launch) (dC : Nat → ClassId) (dI : Nat → Nat → Nat) (cI cS : ClassId) (sz : Nat) (ot : Nat) (at1 : Nat) (at2 : Nat) (at3 : Nat) (lt : Int32) (ft1 : Nat → Int32) (ft2 : Nat → Int32) (ft3 : Nat → Int32) (v : Int32) (le : Int32) (g_v : 0 ≤ v.toInt ∧ v.toInt ≤ 255) (hT : HT 512 511 hsT ft2 ft3) (ho : (occ ft3 512 : Int) ≤ 511) : kMv l yX10_tell wsX10_tell ({ frames := 1, cells := 0, slots := 0, locals := 24 } : Room) [.ref ot, .int v, .int le] sz (dC, dI) vwCl [(cI, .int), (cS, .short)] [(ot, .inr (10, [.ref at1, .ref at2, .ref at3, .int lt])), (at1, .inl (cI, 256, .inl ft1)), (at2, .inl (cI, 512, .inl ft2)), (at3, .inl (cI, 512, .inl ft3))] (fun _ => True) 0 0 (fun (A : Nat → Prop) (hh9 : Heap) => ∀ PZ9 : Prop, (∀ (lt' : Int32) (ft1' : Nat → Int32) (ft2' : Nat → Int32) (ft3' : Nat → Int32), kPD (dC, dI) vwCl A [(ot, .inr (10, [.ref at1, .ref at2, .ref at3, .int lt'])), (at1, .inl (cI, 256, .inl ft1')), (at2, .inl (cI, 512, .inl ft2')), (at3, .inl (cI, 512, .inl ft3'))] hh9 → (F_tl lt lt' v le ft1 ft1' ft2 ft2' ft3 ft3') → PZ9) → PZ9) := by
  refine kMv_of (cc := cX10_tell) (maxL := 4) (ret := none) (lv := [(0, .ref ot), (1, .int v), (2, .int le)]) (by decide +kernel) rfl rfl (Nat.le_of_ble_eq_true rfl) ?_
  intro p e s m below meth c A QQ ls hx hb hr hts hml hown hlocks hA hQQ hK hX hP hD hS hl
  have hown : s.vm.findClass RX10 = some m.cls := hown
  have hcf := k_cf hx hb hml hown hts
  have in_X10 : ∀ w ∈ wsX100, w ∈ wsX10_tell := fun _ h => List.mem_cons_of_mem _ (List.mem_append_left _ (List.mem_append_right _ (h)))
  refine lv_aload_n hx hb dX10_tell_0 rfl (lv_at hl 0 rfl) ?_
  refine lv_iload_n hx hb dX10_tell_1 rfl (lv_at hl 2 rfl) ?_
  refine kV_i (rest := []) (q0 := 0) (ci := 10) hcf (f_X10_placeFor l dC dI cI cS s.heap.size ot at1 at2 at3 lt ft2 ft3 le ) kc_X10_placeFor gX10_tell_X10_placeFor rfl rfl rfl ⟨Nat.le_of_ble_eq_true rfl, Nat.le_of_ble_eq_true rfl⟩ kX_t hK hP hD hS hA [0, 2, 3] [1] rfl (by decide +kernel) rfl rfl rfl hl rfl (Nat.le_of_ble_eq_true rfl) dX10_tell_2 ⟨Nat.le_of_ble_eq_true rfl, Nat.le_of_ble_eq_true rfl⟩ (fun r_1 H locs hB hJ hSn => ?_)
  refine hB _ (fun hPD9 hf1_0 hf1_1 => ?_)
  clear hB
  obtain ⟨hPn, hDn⟩ := hJ _ hPD9.1 hPD9.2 [(at1, .inl (cI, 256, .inl ft1)), (ot, .inr (10, [.ref at1, .ref at2, .ref at3, .int lt])), (at2, .inl (cI, 512, .inl ft2)), (at3, .inl (cI, 512, .inl ft3))] rfl
  clear hP hD hS hJ hPD9
  have hP := hPn
  have hD := hDn
  have hS := hSn
  clear hPn hDn hSn
  obtain ⟨hpz1, hpf1⟩ := pfT_found hf1_1 ho
  refine lv_istore_n (lv' := [(3, .int r_1), (0, .ref ot), (1, .int v), (2, .int le)]) hx hb dX10_tell_5 rfl hl (by decide) rfl (fun ls hl => ?_)
  refine lv_iload_n hx hb dX10_tell_6 rfl (lv_at hl 0 rfl) ?_
  refine lv_iconst (v := (-1)) hx hb dX10_tell_7 (by decide) ?_
  refine lv_icmp_eq (tgt := 22) hx hb dX10_tell_8 (by decide) (fun c_2 => by exfalso; have tc_2 : r_1.toInt = (-1) := v_eq c_2; omega) (fun c_2 => ?_)
  have tc_2 : ¬ r_1.toInt = (-1) := v_ne c_2
  refine lv_iload_n hx hb dX10_tell_11 rfl (lv_at hl 2 rfl) ?_
  refine lv_if_lt (tgt := 22) hx hb dX10_tell_12 (by decide) (fun c_3 => by exfalso; have tc_3 : v.toInt < 0 := v_lt c_3; omega) (fun c_3 => ?_)
  have tc_3 : 0 ≤ v.toInt := v_nlt c_3
  refine lv_iload_n hx hb dX10_tell_15 rfl (lv_at hl 2 rfl) ?_
  refine lv_sipush (v := 256) hx hb dX10_tell_16 (by decide) ?_
  refine lv_icmp_lt (tgt := 23) hx hb dX10_tell_19 (by decide) (fun c_4 => ?_) (fun c_4 => by exfalso; have tc_4 : 256 ≤ v.toInt := v_nlt c_4; omega)
  have tc_4 : v.toInt < 256 := v_lt c_4
  refine lv_aload_n hx hb dX10_tell_23 rfl (lv_at hl 1 rfl) ?_
  refine va_get (D := (dC, dI)) (ci := 10) (v := .ref at1) (C := RX10) (T := TX10) (N := 4) hx hb hts in_X10 hown hK hP 1 rfl rfl 0 (Nat.le_of_ble_eq_true rfl) (hts (.fieldLink RX10 9 "TextMender$ToldCode" "letterOf" "[I") (List.mem_of_getElem? (i := 1) rfl)) (fun _ h9 => h9) rfl dX10_tell_24 ?_
  refine lv_iload_n hx hb dX10_tell_27 rfl (lv_at hl 2 rfl) ?_
  refine lv_iload_n hx hb dX10_tell_28 rfl (lv_at hl 3 rfl) ?_
  obtain ⟨f_5, ef_5⟩ : ∃ g : Nat → Int32, g = upd ft1 (v : Int32).toNatClampNeg le := ⟨_, rfl⟩
  refine va_iast hx hb hK hP hD hS 0 0 rfl rfl (v_inR g_v (by decide) (by decide)) dX10_tell_29 (kWf (g := f_5) (F := fun f_5 => [(at1, .inl (cI, 256, .inl f_5)), (ot, .inr (10, [.ref at1, .ref at2, .ref at3, .int lt])), (at2, .inl (cI, 512, .inl ft2)), (at3, .inl (cI, 512, .inl ft3))]) ef_5 rfl (fun H locs hPn hDn hSn => ?_))
  clear hP hD hS
  have hP := hPn
  have hD := hDn
  have hS := hSn
  clear hPn hDn hSn
  refine lv_aload_n hx hb dX10_tell_30 rfl (lv_at hl 1 rfl) ?_
  refine va_get (D := (dC, dI)) (ci := 10) (v := .ref at2) (C := RX10) (T := TX10) (N := 4) hx hb hts in_X10 hown hK hP 1 rfl rfl 1 (Nat.le_of_ble_eq_true rfl) (hts (.fieldLink RX10 15 "TextMender$ToldCode" "placeLetter" "[I") (List.mem_of_getElem? (i := 2) rfl)) (fun _ h9 => h9) rfl dX10_tell_31 ?_
  refine lv_iload_n hx hb dX10_tell_34 rfl (lv_at hl 0 rfl) ?_
  refine lv_iload_n hx hb dX10_tell_35 rfl (lv_at hl 3 rfl) ?_
  obtain ⟨f_6, ef_6⟩ : ∃ g : Nat → Int32, g = upd ft2 (r_1 : Int32).toNatClampNeg le := ⟨_, rfl⟩
  refine va_iast hx hb hK hP hD hS 2 0 rfl rfl (v_in (by omega)) dX10_tell_36 (kWf (g := f_6) (F := fun f_6 => [(at1, .inl (cI, 256, .inl f_5)), (ot, .inr (10, [.ref at1, .ref at2, .ref at3, .int lt])), (at2, .inl (cI, 512, .inl f_6)), (at3, .inl (cI, 512, .inl ft3))]) ef_6 rfl (fun H locs hPn hDn hSn => ?_))
  clear hP hD hS
  have hP := hPn
  have hD := hDn
  have hS := hSn
  clear hPn hDn hSn
  refine lv_aload_n hx hb dX10_tell_37 rfl (lv_at hl 1 rfl) ?_
  refine va_get (D := (dC, dI)) (ci := 10) (v := .ref at3) (C := RX10) (T := TX10) (N := 4) hx hb hts in_X10 hown hK hP 1 rfl rfl 2 (Nat.le_of_ble_eq_true rfl) (hts (.fieldLink RX10 18 "TextMender$ToldCode" "placeByte" "[I") (List.mem_of_getElem? (i := 3) rfl)) (fun _ h9 => h9) rfl dX10_tell_38 ?_
  refine lv_iload_n hx hb dX10_tell_41 rfl (lv_at hl 0 rfl) ?_
  refine lv_iload_n hx hb dX10_tell_42 rfl (lv_at hl 2 rfl) ?_
  obtain ⟨f_7, ef_7⟩ : ∃ g : Nat → Int32, g = upd ft3 (r_1 : Int32).toNatClampNeg v := ⟨_, rfl⟩
  refine va_iast hx hb hK hP hD hS 3 0 rfl rfl (v_in (by omega)) dX10_tell_43 (kWf (g := f_7) (F := fun f_7 => [(at1, .inl (cI, 256, .inl f_5)), (ot, .inr (10, [.ref at1, .ref at2, .ref at3, .int lt])), (at2, .inl (cI, 512, .inl f_6)), (at3, .inl (cI, 512, .inl f_7))]) ef_7 rfl (fun H locs hPn hDn hSn => ?_))
  clear hP hD hS
  have hP := hPn
  have hD := hDn
  have hS := hSn
  clear hPn hDn hSn
  refine lv_aload_n hx hb dX10_tell_44 rfl (lv_at hl 1 rfl) ?_
  refine lv_dup hx hb dX10_tell_45 rfl ?_
  refine va_get (D := (dC, dI)) (ci := 10) (v := .int lt) (C := RX10) (T := TX10) (N := 4) hx hb hts in_X10 hown hK hP 1 rfl rfl 3 (Nat.le_of_ble_eq_true rfl) (hts (.fieldLink RX10 27 "TextMender$ToldCode" "length" "I") (List.mem_of_getElem? (i := 4) rfl)) (fun _ h9 => h9) rfl dX10_tell_46 ?_
  refine lv_iconst (v := 1) hx hb dX10_tell_49 (by decide) ?_
  refine lv_iadd hx hb dX10_tell_50 ?_
  refine lv_topi (fun x_8 ex_8 => ?_)
  have rv8_0 := v_rng lt
  refine va_put (D := (dC, dI)) (ci := 10) (v := .int x_8) (ty := .int) (C := RX10) (T := TX10) (N := 4) hx hb hts in_X10 tyX10 tyX10_ok nmX10 hown hK hP hD hS 1 rfl rfl 3 (Nat.le_of_ble_eq_true rfl) (hts (.fieldLink RX10 27 "TextMender$ToldCode" "length" "I") (List.mem_of_getElem? (i := 4) rfl)) (fun _ h9 => h9) rfl (tyX10_ok 3 (Nat.le_of_ble_eq_true rfl)) rfl rfl (Nat.le_of_ble_eq_true rfl) dX10_tell_51 (kW (wn := [(at1, .inl (cI, 256, .inl f_5)), (ot, .inr (10, [.ref at1, .ref at2, .ref at3, .int x_8])), (at2, .inl (cI, 512, .inl f_6)), (at3, .inl (cI, 512, .inl f_7))]) rfl (fun H locs hPn hDn hSn => ?_))
  clear hP hD hS
  have hP := hPn
  have hD := hDn
  have hS := hSn
  clear hPn hDn hSn
  exact kl_v hQQ hx hb hr hlocks hS dX10_tell_54 (fun PZ9 kZ9 => kZ9 x_8 f_5 f_6 f_7 (kPD_sub hP hD [1, 0, 2, 3] (by decide +kernel) rfl) (⟨r_1, by omega, by omega, hpf1, ex_8, ef_5, ef_6, ef_7⟩))

set_option maxHeartbeats 40000000 in
set_option maxRecDepth 100000 in
theorem f_span_4 (l : Launch) (dC : Nat → ClassId) (dI : Nat → Nat → Nat) (cI cS : ClassId) (sz : Nat) (oX : Nat) (nT : Nat) (nL : Nat) (nM : Nat) (oC : Nat) (oP : Nat) (oH : Nat) (oK : Nat) (oG : Nat) (oR : Nat) (oQ : Nat) (oW : Nat) (o4 : Nat) (o5 : Nat) (a41 : Nat) (a42 : Nat) (a43 : Nat) (nw : Nat) (w1 : Nat) (w2 : Nat) (w3 : Nat) (o7 : Nat) (o8 : Nat) (o9 : Nat) (w4 : Nat) (w5 : Nat) (w6 : Nat) (w7 : Nat) (fa : Int32) (l4 : Int32) (f41 : Nat → Int32) (f42 : Nat → Int32) (f43 : Nat → Int32) (ke : Int32) (tl : Int32) (fsh : Int32) (wi : Int32) (ri : Int32) (fm : Int32) (lm : Int32) (cd : Int32) (fr : Int32) (n : Int32) (le : Int32) (sp : Int32) (g_ke : 0 ≤ ke.toInt ∧ ke.toInt ≤ 200) (g_fsh : 0 ≤ fsh.toInt ∧ fsh.toInt ≤ 1) (g_fm : -1 ≤ fm.toInt ∧ fm.toInt ≤ 800) (g_lm : -1 ≤ lm.toInt ∧ lm.toInt ≤ 800) (hcd : cd.toInt = 4) (hT : HT 512 511 hsT f42 f43) (hoo : occ f43 512 ≤ occ f41 256) : kMi l yX11_span wsX11_span ({ frames := 3, cells := 0, slots := 0, locals := 73 } : Room) [.ref oX, .int cd, .int fr, .int n, .int le, .int sp] sz (dC, dI) vwCl [(cI, .int), (cS, .short)] [(oX, .inr (11, [.ref nT, .ref nL, .ref nM, .ref oC, .ref oP, .ref oH, .ref oK, .ref oG, .ref oR, .ref oQ, .ref oW, .int fa])), (oC, .inr (2, [.ref o4, .ref o5])), (o4, .inr (10, [.ref a41, .ref a42, .ref a43, .int l4])), (a41, .inl (cI, 256, .inl f41)), (a42, .inl (cI, 512, .inl f42)), (a43, .inl (cI, 512, .inl f43)), (oW, .inr (1, [.ref oC, .ref oK, .ref nw, .ref w1, .ref w2, .ref w3, .ref o7, .ref o8, .ref o9, .ref w4, .ref w5, .ref w6, .ref w7, .int ke, .int tl, .int fsh, .int wi, .int ri, .int fm, .int lm]))] (va_Nw (.methodLinkNest RX10 35 yX11_isLetter "TextMender")) 0 0 (fun (A : Nat → Prop) (r : Int32) (hh9 : Heap) => ∀ PZ9 : Prop, (∀ (fa' : Int32) (fsh' : Int32) (l4' : Int32) (f41' : Nat → Int32) (f42' : Nat → Int32) (f43' : Nat → Int32), kPD (dC, dI) vwCl A [(oX, .inr (11, [.ref nT, .ref nL, .ref nM, .ref oC, .ref oP, .ref oH, .ref oK, .ref oG, .ref oR, .ref oQ, .ref oW, .int fa'])), (oC, .inr (2, [.ref o4, .ref o5])), (o4, .inr (10, [.ref a41, .ref a42, .ref a43, .int l4'])), (a41, .inl (cI, 256, .inl f41')), (a42, .inl (cI, 512, .inl f42')), (a43, .inl (cI, 512, .inl f43')), (oW, .inr (1, [.ref oC, .ref oK, .ref nw, .ref w1, .ref w2, .ref w3, .ref o7, .ref o8, .ref o9, .ref w4, .ref w5, .ref w6, .ref w7, .int ke, .int tl, .int fsh', .int wi, .int ri, .int fm, .int lm]))] hh9 → (0 ≤ fsh'.toInt ∧ fsh'.toInt ≤ 1) → (F_spanC r fr n le sp l4 l4' f41 f41' f42 f42' f43 f43') → (F_fsP (CT fr n le sp (fun k => f41 k = -1) (nTd f42 f43)) fsh fsh') → PZ9) → PZ9) := by
  refine kMi_of (cc := cX11_span) (maxL := 8) (ret := (some .int)) (lv := [(0, .ref oX), (1, .int cd), (2, .int fr), (3, .int n), (4, .int le), (5, .int sp)]) (by decide +kernel) rfl rfl (Nat.le_of_ble_eq_true rfl) ?_
  intro p e s m below meth c A QQ ls hx hb hr hts hml hown hlocks hA hQQ hK hX hP hD hS hl
  have hown : s.vm.findClass RX11 = some m.cls := hown
  have hcf := k_cf hx hb hml hown hts
  have hN35 := hX
  have in_X11 : ∀ w ∈ wsX110, w ∈ wsX11_span := fun _ h => List.mem_cons_of_mem _ (List.mem_append_left _ (List.mem_append_left _ (List.mem_append_left _ (List.mem_append_left _ (List.mem_append_left _ (List.mem_append_left _ (List.mem_append_left _ (List.mem_append_left _ (List.mem_append_right _ (h))))))))))
  replace g_ke := hid g_ke
  replace g_fm := hid g_fm
  replace g_lm := hid g_lm
  refine lv_aload_n hx hb dX11_span_0 rfl (lv_at hl 0 rfl) ?_
  refine lv_iconst (v := (-1)) hx hb dX11_span_1 (by decide) ?_
  refine va_put (D := (dC, dI)) (ci := 11) (v := .int (-1)) (ty := .int) (C := RX11) (T := TX11) (N := 12) hx hb hts in_X11 tyX11 tyX11_ok nmX11 hown hK hP hD hS 0 rfl rfl 11 (Nat.le_of_ble_eq_true rfl) (hts (.fieldLink RX11 90 "TextMender" "fault" "I") (List.mem_of_getElem? (i := 1) rfl)) (fun _ h9 => h9) rfl (tyX11_ok 11 (Nat.le_of_ble_eq_true rfl)) rfl rfl (Nat.le_of_ble_eq_true rfl) dX11_span_2 (kW (wn := [(oX, .inr (11, [.ref nT, .ref nL, .ref nM, .ref oC, .ref oP, .ref oH, .ref oK, .ref oG, .ref oR, .ref oQ, .ref oW, .int (-1)])), (oC, .inr (2, [.ref o4, .ref o5])), (o4, .inr (10, [.ref a41, .ref a42, .ref a43, .int l4])), (a41, .inl (cI, 256, .inl f41)), (a42, .inl (cI, 512, .inl f42)), (a43, .inl (cI, 512, .inl f43)), (oW, .inr (1, [.ref oC, .ref oK, .ref nw, .ref w1, .ref w2, .ref w3, .ref o7, .ref o8, .ref o9, .ref w4, .ref w5, .ref w6, .ref w7, .int ke, .int tl, .int fsh, .int wi, .int ri, .int fm, .int lm]))]) rfl (fun H locs hPn hDn hSn => ?_))
  clear hP hD hS
  have hP := hPn
  have hD := hDn
  have hS := hSn
  clear hPn hDn hSn
  refine lv_aload_n hx hb dX11_span_5 rfl (lv_at hl 0 rfl) ?_
  refine va_get (D := (dC, dI)) (ci := 11) (v := .ref oC) (C := RX11) (T := TX11) (N := 12) hx hb hts in_X11 hown hK hP 0 rfl rfl 3 (Nat.le_of_ble_eq_true rfl) (hts (.fieldLink RX11 40 "TextMender" "codes" "LTextMender$Codes;") (List.mem_of_getElem? (i := 2) rfl)) (fun _ h9 => h9) rfl dX11_span_6 ?_
  refine lv_iload_n hx hb dX11_span_9 rfl (lv_at hl 1 rfl) ?_
  refine kV_r (rest := []) (q0 := 0) (ci := 2) hcf (m_X2_toldCode_4 l dC dI cI cS H.size oC o4 o5 cd (by omega)) kc_X2_toldCode gX11_span_X2_toldCode rfl rfl rfl ⟨Nat.le_of_ble_eq_true rfl, Nat.le_of_ble_eq_true rfl⟩ kX_t hK hP hD hS hA (posT mk_110 0) (posF mk_110 0) (kC_of mk_110 rfl rfl) (by decide +kernel) rfl rfl rfl hl rfl (Nat.le_of_ble_eq_true rfl) dX11_span_10 ⟨Nat.le_of_ble_eq_true rfl, Nat.le_of_ble_eq_true rfl⟩ (fun r_1 H locs hB hJ hSn => ?_)
  refine And.elim (fun hra hBr => ?_) hB
  clear hB
  refine hBr _ (fun hPD9 => ?_)
  clear hBr
  rw [hra]
  obtain ⟨hPn, hDn⟩ := kJi (m := mk_110) hJ rfl hPD9.1 hPD9.2 (wn := [(oX, .inr (11, [.ref nT, .ref nL, .ref nM, .ref oC, .ref oP, .ref oH, .ref oK, .ref oG, .ref oR, .ref oQ, .ref oW, .int (-1)])), (oC, .inr (2, [.ref o4, .ref o5])), (o4, .inr (10, [.ref a41, .ref a42, .ref a43, .int l4])), (a41, .inl (cI, 256, .inl f41)), (a42, .inl (cI, 512, .inl f42)), (a43, .inl (cI, 512, .inl f43)), (oW, .inr (1, [.ref oC, .ref oK, .ref nw, .ref w1, .ref w2, .ref w3, .ref o7, .ref o8, .ref o9, .ref w4, .ref w5, .ref w6, .ref w7, .int ke, .int tl, .int fsh, .int wi, .int ri, .int fm, .int lm]))]) rfl
  clear hP hD hS hJ hPD9
  have hP := hPn
  have hD := hDn
  have hS := hSn
  clear hPn hDn hSn
  refine lv_astore (lv' := [(6, .ref o4), (0, .ref oX), (1, .int cd), (2, .int fr), (3, .int n), (4, .int le), (5, .int sp)]) hx hb dX11_span_13 hl (by decide) rfl (fun ls hl => ?_)
  refine lv_aload hx hb dX11_span_15 (lv_at hl 0 rfl) ?_
  refine lv_ifnull hx hb dX11_span_17 ?_
  refine lv_aload hx hb dX11_span_20 (lv_at hl 0 rfl) ?_
  refine lv_iload_n hx hb dX11_span_22 rfl (lv_at hl 3 rfl) ?_
  refine lv_iload_n hx hb dX11_span_23 rfl (lv_at hl 4 rfl) ?_
  refine lv_iload hx hb dX11_span_24 (lv_at hl 5 rfl) ?_
  refine lv_iload hx hb dX11_span_26 (lv_at hl 6 rfl) ?_
  refine kV_i (rest := []) (q0 := 0) (ci := 10) hcf (f_X10_canTake l dC dI cI cS H.size o4 a41 a42 a43 l4 f41 f42 f43 fr n le sp (hT) (occ_511 hoo)) kc_X10_canTake gX11_span_X10_canTake rfl rfl rfl ⟨Nat.le_of_ble_eq_true rfl, Nat.le_of_ble_eq_true rfl⟩ (kX_1 hN35) hK hP hD hS hA (posT mk_111 0) (posF mk_111 0) (kC_of mk_111 rfl rfl) (by decide +kernel) rfl rfl rfl hl rfl (Nat.le_of_ble_eq_true rfl) dX11_span_28 ⟨Nat.le_of_ble_eq_true rfl, Nat.le_of_ble_eq_true rfl⟩ (fun r_2 H locs hB hJ hSn => ?_)
  refine hB _ (fun hPD9 hf2_0 hf2_1 => ?_)
  clear hB
  obtain ⟨hPn, hDn⟩ := kJi (m := mk_111) hJ rfl hPD9.1 hPD9.2 (wn := [(oX, .inr (11, [.ref nT, .ref nL, .ref nM, .ref oC, .ref oP, .ref oH, .ref oK, .ref oG, .ref oR, .ref oQ, .ref oW, .int (-1)])), (oC, .inr (2, [.ref o4, .ref o5])), (o4, .inr (10, [.ref a41, .ref a42, .ref a43, .int l4])), (a41, .inl (cI, 256, .inl f41)), (a42, .inl (cI, 512, .inl f42)), (a43, .inl (cI, 512, .inl f43)), (oW, .inr (1, [.ref oC, .ref oK, .ref nw, .ref w1, .ref w2, .ref w3, .ref o7, .ref o8, .ref o9, .ref w4, .ref w5, .ref w6, .ref w7, .int ke, .int tl, .int fsh, .int wi, .int ri, .int fm, .int lm]))]) rfl
  clear hP hD hS hJ hPD9
  have hP := hPn
  have hD := hDn
  have hS := hSn
  clear hPn hDn hSn
  refine lv_if_ne (tgt := 36) hx hb dX11_span_31 (by decide) (fun c_3 => ?_) (fun c_3 => ?_)
  · have tc_3 : ¬ r_2.toInt = 0 := v_ne c_3
    refine lv_iconst (v := 0) hx hb dX11_span_36 (by decide) ?_
    refine lv_istore (lv' := [(7, .int 0), (6, .ref o4), (0, .ref oX), (1, .int cd), (2, .int fr), (3, .int n), (4, .int le), (5, .int sp)]) hx hb dX11_span_37 hl (by decide) rfl (fun ls hl => ?_)
    have hCT := F_ct_1 hf2_1 (by omega)
    obtain ⟨hb1, hb2, hb3, hb4, hb5, hb6, hb7, hb8⟩ := hCT.1
    have LOOP_39 : ∀ (k_39 : Nat) (i : Int32) (l4a : Int32) (f41a : Nat → Int32) (f42a : Nat → Int32) (f43a : Nat → Int32) (H : Heap) (locs : List Loc) (ls : Array Slot), MSd (256 - i.toInt : Int) k_39 → (0 ≤ i.toInt ∧ i.toInt ≤ 256) → (i.toInt ≤ n.toInt) → (SPC i l4 l4a fr le sp f41 f42 f43 f41a f42a f43a) → va_P (dC, dI) vwCl [(oX, .inr (11, [.ref nT, .ref nL, .ref nM, .ref oC, .ref oP, .ref oH, .ref oK, .ref oG, .ref oR, .ref oQ, .ref oW, .int (-1)])), (oC, .inr (2, [.ref o4, .ref o5])), (o4, .inr (10, [.ref a41, .ref a42, .ref a43, .int l4a])), (a41, .inl (cI, 256, .inl f41a)), (a42, .inl (cI, 512, .inl f42a)), (a43, .inl (cI, 512, .inl f43a)), (oW, .inr (1, [.ref oC, .ref oK, .ref nw, .ref w1, .ref w2, .ref w3, .ref o7, .ref o8, .ref o9, .ref w4, .ref w5, .ref w6, .ref w7, .int ke, .int tl, .int fsh, .int wi, .int ri, .int fm, .int lm]))] H → va_D A [(oX, .inr (11, [.ref nT, .ref nL, .ref nM, .ref oC, .ref oP, .ref oH, .ref oK, .ref oG, .ref oR, .ref oQ, .ref oW, .int (-1)])), (oC, .inr (2, [.ref o4, .ref o5])), (o4, .inr (10, [.ref a41, .ref a42, .ref a43, .int l4a])), (a41, .inl (cI, 256, .inl f41a)), (a42, .inl (cI, 512, .inl f42a)), (a43, .inl (cI, 512, .inl f43a)), (oW, .inr (1, [.ref oC, .ref oK, .ref nw, .ref w1, .ref w2, .ref w3, .ref o7, .ref o8, .ref o9, .ref w4, .ref w5, .ref w6, .ref w7, .int ke, .int tl, .int fsh, .int wi, .int ri, .int fm, .int lm]))] → va_S A s.heap H locs → lv_has ls 8 [(7, .int i), (6, .ref o4), (0, .ref oX), (1, .int cd), (2, .int fr), (3, .int n), (4, .int le), (5, .int sp)] → W p l e (headSpec wsX11_span ({ frames := 3, cells := 0, slots := 0, locals := 73 } : Room)).room s m ([.ref oX, .int cd, .int fr, .int n, .int le, .int sp] : List Value).toArray below meth c H locs 0 0 (MQ below QQ ([.ref oX, .int cd, .int fr, .int n, .int le, .int sp] : List Value).toArray s 0 0 A) (F0 m 39 ls []) := by
      clear hP hD hS hl
      try (clear hcd)
      intro k_39
      induction k_39 with
      | zero =>
        intro i l4a f41a f42a f43a H locs ls hm_39 g_i hin hsp hP hD hS hl
        exact ms_0 hm_39
      | succ k_39 ih_39 =>
        intro i l4a f41a f42a f43a H locs ls hm_39 g_i hin hsp hP hD hS hl
        refine lv_iload hx hb dX11_span_39 (lv_at hl 0 rfl) ?_
        refine lv_iload_n hx hb dX11_span_41 rfl (lv_at hl 5 rfl) ?_
        refine lv_icmp_ge (tgt := 68) hx hb dX11_span_42 (by decide) (fun c_4 => ?_) (fun c_4 => ?_)
        · have tc_4 : n.toInt ≤ i.toInt := v_le c_4
          refine lv_aload_n hx hb dX11_span_68 rfl (lv_at hl 2 rfl) ?_
          refine va_get (D := (dC, dI)) (ci := 11) (v := .ref oW) (C := RX11) (T := TX11) (N := 12) hx hb hts in_X11 hown hK hP 0 rfl rfl 10 (Nat.le_of_ble_eq_true rfl) (hts (.fieldLink RX11 86 "TextMender" "choiceBook" "LTextMender$Choices;") (List.mem_of_getElem? (i := 3) rfl)) (fun _ h9 => h9) rfl dX11_span_69 ?_
          refine kV_v (rest := []) (q0 := 0) (ci := 1) hcf (f_X1_forgetFreshness l dC dI cI cS H.size oW oC oK nw w1 w2 w3 o7 o8 o9 w4 w5 w6 w7 ke tl fsh wi ri fm lm (g_ke) (g_fsh) (g_fm) (g_lm)) kc_X1_forgetFreshness gX11_span_X1_forgetFreshness rfl rfl rfl ⟨Nat.le_of_ble_eq_true rfl, Nat.le_of_ble_eq_true rfl⟩ kX_t hK hP hD hS hA (posT mk_112 0) (posF mk_112 0) (kC_of mk_112 rfl rfl) (by decide +kernel) rfl rfl rfl hl rfl (Nat.le_of_ble_eq_true rfl) dX11_span_72 ⟨Nat.le_of_ble_eq_true rfl, Nat.le_of_ble_eq_true rfl⟩ (fun H locs hB hJ hSn => ?_)
          refine hB _ (fun fsh_5 hPD9 hf5_0 hf5_1 => ?_)
          clear hB
          obtain ⟨hPn, hDn⟩ := kJi (m := mk_112) hJ rfl hPD9.1 hPD9.2 (wn := [(oX, .inr (11, [.ref nT, .ref nL, .ref nM, .ref oC, .ref oP, .ref oH, .ref oK, .ref oG, .ref oR, .ref oQ, .ref oW, .int (-1)])), (oC, .inr (2, [.ref o4, .ref o5])), (o4, .inr (10, [.ref a41, .ref a42, .ref a43, .int l4a])), (a41, .inl (cI, 256, .inl f41a)), (a42, .inl (cI, 512, .inl f42a)), (a43, .inl (cI, 512, .inl f43a)), (oW, .inr (1, [.ref oC, .ref oK, .ref nw, .ref w1, .ref w2, .ref w3, .ref o7, .ref o8, .ref o9, .ref w4, .ref w5, .ref w6, .ref w7, .int ke, .int tl, .int fsh_5, .int wi, .int ri, .int fm, .int lm]))]) rfl
          clear hP hD hS hJ hPD9
          have hP := hPn
          have hD := hDn
          have hS := hSn
          clear hPn hDn hSn
          refine lv_aload hx hb dX11_span_75 (lv_at hl 1 rfl) ?_
          refine kV_i (rest := []) (q0 := 0) (ci := 10) hcf (m_X10_length l dC dI cI cS H.size o4 a41 a42 a43 l4a ) kc_X10_length gX11_span_X10_length rfl rfl rfl ⟨Nat.le_of_ble_eq_true rfl, Nat.le_of_ble_eq_true rfl⟩ kX_t hK hP hD hS hA (posT mk_113 0) (posF mk_113 0) (kC_of mk_113 rfl rfl) (by decide +kernel) rfl rfl rfl hl rfl (Nat.le_of_ble_eq_true rfl) dX11_span_77 ⟨Nat.le_of_ble_eq_true rfl, Nat.le_of_ble_eq_true rfl⟩ (fun r_6 H locs hB hJ hSn => ?_)
          refine hB _ (fun hPD9 hf6_0 => ?_)
          clear hB
          obtain ⟨hPn, hDn⟩ := kJi (m := mk_113) hJ rfl hPD9.1 hPD9.2 (wn := [(oX, .inr (11, [.ref nT, .ref nL, .ref nM, .ref oC, .ref oP, .ref oH, .ref oK, .ref oG, .ref oR, .ref oQ, .ref oW, .int (-1)])), (oC, .inr (2, [.ref o4, .ref o5])), (o4, .inr (10, [.ref a41, .ref a42, .ref a43, .int l4a])), (a41, .inl (cI, 256, .inl f41a)), (a42, .inl (cI, 512, .inl f42a)), (a43, .inl (cI, 512, .inl f43a)), (oW, .inr (1, [.ref oC, .ref oK, .ref nw, .ref w1, .ref w2, .ref w3, .ref o7, .ref o8, .ref o9, .ref w4, .ref w5, .ref w6, .ref w7, .int ke, .int tl, .int fsh_5, .int wi, .int ri, .int fm, .int lm]))]) rfl
          clear hP hD hS hJ hPD9
          have hP := hPn
          have hD := hDn
          have hS := hSn
          clear hPn hDn hSn
          rw [hf6_0]
          exact kl_i (v := l4a) hQQ hx hb hr hlocks hS dX11_span_80 (fun PZ9 kZ9 => kZ9 (-1) fsh_5 l4a f41a f42a f43a (⟨hP, hD⟩) (hf5_0) (Or.inl ⟨hCT, SPC_n hsp (by omega), rfl⟩) (Or.inl ⟨hCT, hf5_1⟩))
        · have tc_4 : i.toInt < n.toInt := v_nle c_4
          refine lv_aload hx hb dX11_span_45 (lv_at hl 1 rfl) ?_
          refine lv_iload_n hx hb dX11_span_47 rfl (lv_at hl 4 rfl) ?_
          refine lv_iload hx hb dX11_span_48 (lv_at hl 0 rfl) ?_
          refine lv_iadd hx hb dX11_span_50 ?_
          refine lv_topi (fun x_7 ex_7 => ?_)
          have tx_7 : x_7.toInt = fr.toInt + i.toInt := v_add ex_7 (by show -2147483648 ≤ fr.toInt + i.toInt; omega) (by show fr.toInt + i.toInt < 2147483648; omega)
          refine lv_iload hx hb dX11_span_51 (lv_at hl 6 rfl) ?_
          refine lv_iload hx hb dX11_span_53 (lv_at hl 0 rfl) ?_
          refine lv_iload hx hb dX11_span_55 (lv_at hl 7 rfl) ?_
          refine lv_imul hx hb dX11_span_57 ?_
          refine lv_topi (fun x_8 ex_8 => ?_)
          have rv8_1 := v_rng sp
          refine lv_iadd hx hb dX11_span_58 ?_
          refine lv_topi (fun x_9 ex_9 => ?_)
          have rv9_0 := v_rng le
          have rv9_1 := v_rng x_8
          refine kV_v (rest := []) (q0 := 0) (ci := 10) hcf (f_X10_tell l dC dI cI cS H.size o4 a41 a42 a43 l4a f41a f42a f43a x_7 x_9 (by omega) (hsp.2.1) (occ_511 hsp.2.2.1)) kc_X10_tell gX11_span_X10_tell rfl rfl rfl ⟨Nat.le_of_ble_eq_true rfl, Nat.le_of_ble_eq_true rfl⟩ kX_t hK hP hD hS hA (posT mk_111 0) (posF mk_111 0) (kC_of mk_111 rfl rfl) (by decide +kernel) rfl rfl rfl hl rfl (Nat.le_of_ble_eq_true rfl) dX11_span_59 ⟨Nat.le_of_ble_eq_true rfl, Nat.le_of_ble_eq_true rfl⟩ (fun H locs hB hJ hSn => ?_)
          refine hB _ (fun lt_10 ft1_10 ft2_10 ft3_10 hPD9 hf10_0 => ?_)
          clear hB
          obtain ⟨hPn, hDn⟩ := kJi (m := mk_111) hJ rfl hPD9.1 hPD9.2 (wn := [(oX, .inr (11, [.ref nT, .ref nL, .ref nM, .ref oC, .ref oP, .ref oH, .ref oK, .ref oG, .ref oR, .ref oQ, .ref oW, .int (-1)])), (oC, .inr (2, [.ref o4, .ref o5])), (o4, .inr (10, [.ref a41, .ref a42, .ref a43, .int lt_10])), (a41, .inl (cI, 256, .inl ft1_10)), (a42, .inl (cI, 512, .inl ft2_10)), (a43, .inl (cI, 512, .inl ft3_10)), (oW, .inr (1, [.ref oC, .ref oK, .ref nw, .ref w1, .ref w2, .ref w3, .ref o7, .ref o8, .ref o9, .ref w4, .ref w5, .ref w6, .ref w7, .int ke, .int tl, .int fsh, .int wi, .int ri, .int fm, .int lm]))]) rfl
          clear hP hD hS hJ hPD9
          have hP := hPn
          have hD := hDn
          have hS := hSn
          clear hPn hDn hSn
          obtain ⟨x_11, ex_11⟩ : ∃ y : Int32, y = i + 1 := ⟨_, rfl⟩
          have tx_11 : x_11.toInt = i.toInt + 1 := v_addR (l2 := 1) (h2 := 1) ex_11 g_i (by decide) (by decide) (by decide)
          refine lv_iinc (v := x_11) (lv' := [(7, .int x_11), (6, .ref o4), (0, .ref oX), (1, .int cd), (2, .int fr), (3, .int n), (4, .int le), (5, .int sp)]) hx hb dX11_span_62 hl (k := 0) rfl (by rw [ex_11]; rfl) (by decide) rfl (fun ls hl => ?_)
          refine lv_goto (tgt := 39) hx hb dX11_span_65 (by decide) ?_
          exact ih_39 x_11 lt_10 ft1_10 ft2_10 ft3_10 _ _ _ (ms_lt hm_39 (by show ((256 - x_11.toInt : Int)) < 256 - i.toInt; omega) (by show (0 : Int) < 256 - i.toInt; omega)) (by show 0 ≤ x_11.toInt ∧ x_11.toInt ≤ 256; omega) (by show x_11.toInt ≤ n.toInt; omega) (SPC_s hCT hsp (by omega) (by omega) ex_8 ex_9 (by omega) hf10_0 (by omega)) hP hD hS (lv_sub hl [0, 1, 2, 3, 4, 5, 6, 7] rfl)
    exact LOOP_39 _ 0 l4 f41 f42 f43 _ _ _ (ms_s _) (by decide) (by show 0 ≤ n.toInt; omega) (SPC_0 hT hoo) hP hD hS (lv_sub hl [0, 1, 2, 3, 4, 5, 6, 7] rfl)
  · have tc_3 : r_2.toInt = 0 := v_eq c_3
    refine lv_iconst (v := (-1)) hx hb dX11_span_34 (by decide) ?_
    exact kl_i (v := (-1)) hQQ hx hb hr hlocks hS dX11_span_35 (fun PZ9 kZ9 => kZ9 (-1) fsh l4 f41 f42 f43 (⟨hP, hD⟩) (g_fsh) (Or.inr ⟨rfl, rfl, rfl, rfl, rfl, F_ct_0 hf2_1 (by omega)⟩) (Or.inr ⟨F_ct_0 hf2_1 (by omega), rfl⟩))

set_option maxHeartbeats 40000000 in
set_option maxRecDepth 100000 in
theorem f_blank_4 (l : Launch) (dC : Nat → ClassId) (dI : Nat → Nat → Nat) (cI cS : ClassId) (sz : Nat) (oX : Nat) (nT : Nat) (nL : Nat) (nM : Nat) (oC : Nat) (oP : Nat) (oH : Nat) (oK : Nat) (oG : Nat) (oR : Nat) (oQ : Nat) (oW : Nat) (o4 : Nat) (o5 : Nat) (a41 : Nat) (a42 : Nat) (a43 : Nat) (nw : Nat) (w1 : Nat) (w2 : Nat) (w3 : Nat) (o7 : Nat) (o8 : Nat) (o9 : Nat) (w4 : Nat) (w5 : Nat) (w6 : Nat) (w7 : Nat) (fa : Int32) (l4 : Int32) (f41 : Nat → Int32) (f43 : Nat → Int32) (ke : Int32) (tl : Int32) (fsh : Int32) (wi : Int32) (ri : Int32) (fm : Int32) (lm : Int32) (cd : Int32) (g_ke : 0 ≤ ke.toInt ∧ ke.toInt ≤ 200) (g_fsh : 0 ≤ fsh.toInt ∧ fsh.toInt ≤ 1) (g_fm : -1 ≤ fm.toInt ∧ fm.toInt ≤ 800) (g_lm : -1 ≤ lm.toInt ∧ lm.toInt ≤ 800) (hcd : cd.toInt = 4) : kMi l yX11_blank wsX11_blank ({ frames := 2, cells := 0, slots := 0, locals := 43 } : Room) [.ref oX, .int cd] sz (dC, dI) vwCl [(cI, .int), (cS, .short)] [(oX, .inr (11, [.ref nT, .ref nL, .ref nM, .ref oC, .ref oP, .ref oH, .ref oK, .ref oG, .ref oR, .ref oQ, .ref oW, .int fa])), (oC, .inr (2, [.ref o4, .ref o5])), (o4, .inr (10, [.ref a41, .ref a42, .ref a43, .int l4])), (a41, .inl (cI, 256, .inl f41)), (a43, .inl (cI, 512, .inl f43)), (oW, .inr (1, [.ref oC, .ref oK, .ref nw, .ref w1, .ref w2, .ref w3, .ref o7, .ref o8, .ref o9, .ref w4, .ref w5, .ref w6, .ref w7, .int ke, .int tl, .int fsh, .int wi, .int ri, .int fm, .int lm]))] (fun _ => True) 0 0 (fun (A : Nat → Prop) (r : Int32) (hh9 : Heap) => ∀ PZ9 : Prop, (∀ (fsh' : Int32) (l4' : Int32) (f41' : Nat → Int32) (f43' : Nat → Int32), kPD (dC, dI) vwCl A [(oX, .inr (11, [.ref nT, .ref nL, .ref nM, .ref oC, .ref oP, .ref oH, .ref oK, .ref oG, .ref oR, .ref oQ, .ref oW, .int fa])), (oC, .inr (2, [.ref o4, .ref o5])), (o4, .inr (10, [.ref a41, .ref a42, .ref a43, .int l4'])), (a41, .inl (cI, 256, .inl f41')), (a43, .inl (cI, 512, .inl f43')), (oW, .inr (1, [.ref oC, .ref oK, .ref nw, .ref w1, .ref w2, .ref w3, .ref o7, .ref o8, .ref o9, .ref w4, .ref w5, .ref w6, .ref w7, .int ke, .int tl, .int fsh', .int wi, .int ri, .int fm, .int lm]))] hh9 → (0 ≤ fsh'.toInt ∧ fsh'.toInt ≤ 1) → (r = 1) → (l4' = 0) → (F_fill 256 f41' (-1)) → (F_fill 512 f43' (-1)) → (fsh' = 0) → PZ9) → PZ9) := by
  refine kMi_of (cc := cX11_blank) (maxL := 3) (ret := (some .boolean)) (lv := [(0, .ref oX), (1, .int cd)]) (by decide +kernel) rfl rfl (Nat.le_of_ble_eq_true rfl) ?_
  intro p e s m below meth c A QQ ls hx hb hr hts hml hown hlocks hA hQQ hK hX hP hD hS hl
  have hown : s.vm.findClass RX11 = some m.cls := hown
  have hcf := k_cf hx hb hml hown hts
  have in_X11 : ∀ w ∈ wsX110, w ∈ wsX11_blank := fun _ h => List.mem_cons_of_mem _ (List.mem_append_left _ (List.mem_append_left _ (List.mem_append_left _ (List.mem_append_left _ (List.mem_append_left _ (List.mem_append_left _ (List.mem_append_right _ (h))))))))
  replace g_ke := hid g_ke
  replace g_fsh := hid g_fsh
  replace g_fm := hid g_fm
  replace g_lm := hid g_lm
  refine lv_aload_n hx hb dX11_blank_0 rfl (lv_at hl 0 rfl) ?_
  refine va_get (D := (dC, dI)) (ci := 11) (v := .ref oC) (C := RX11) (T := TX11) (N := 12) hx hb hts in_X11 hown hK hP 0 rfl rfl 3 (Nat.le_of_ble_eq_true rfl) (hts (.fieldLink RX11 40 "TextMender" "codes" "LTextMender$Codes;") (List.mem_of_getElem? (i := 1) rfl)) (fun _ h9 => h9) rfl dX11_blank_1 ?_
  refine lv_iload_n hx hb dX11_blank_4 rfl (lv_at hl 1 rfl) ?_
  refine kV_r (rest := []) (q0 := 0) (ci := 2) hcf (m_X2_toldCode_4 l dC dI cI cS s.heap.size oC o4 o5 cd (by omega)) kc_X2_toldCode gX11_blank_X2_toldCode rfl rfl rfl ⟨Nat.le_of_ble_eq_true rfl, Nat.le_of_ble_eq_true rfl⟩ kX_t hK hP hD hS hA (posT mk_114 0) (posF mk_114 0) (kC_of mk_114 rfl rfl) (by decide +kernel) rfl rfl rfl hl rfl (Nat.le_of_ble_eq_true rfl) dX11_blank_5 ⟨Nat.le_of_ble_eq_true rfl, Nat.le_of_ble_eq_true rfl⟩ (fun r_1 H locs hB hJ hSn => ?_)
  refine And.elim (fun hra hBr => ?_) hB
  clear hB
  refine hBr _ (fun hPD9 => ?_)
  clear hBr
  rw [hra]
  obtain ⟨hPn, hDn⟩ := kJi (m := mk_114) hJ rfl hPD9.1 hPD9.2 (wn := [(oX, .inr (11, [.ref nT, .ref nL, .ref nM, .ref oC, .ref oP, .ref oH, .ref oK, .ref oG, .ref oR, .ref oQ, .ref oW, .int fa])), (oC, .inr (2, [.ref o4, .ref o5])), (o4, .inr (10, [.ref a41, .ref a42, .ref a43, .int l4])), (a41, .inl (cI, 256, .inl f41)), (a43, .inl (cI, 512, .inl f43)), (oW, .inr (1, [.ref oC, .ref oK, .ref nw, .ref w1, .ref w2, .ref w3, .ref o7, .ref o8, .ref o9, .ref w4, .ref w5, .ref w6, .ref w7, .int ke, .int tl, .int fsh, .int wi, .int ri, .int fm, .int lm]))]) rfl
  clear hP hD hS hJ hPD9
  have hP := hPn
  have hD := hDn
  have hS := hSn
  clear hPn hDn hSn
  refine lv_astore_n (lv' := [(2, .ref o4), (0, .ref oX), (1, .int cd)]) hx hb dX11_blank_8 rfl hl (by decide) rfl (fun ls hl => ?_)
  refine lv_aload_n hx hb dX11_blank_9 rfl (lv_at hl 0 rfl) ?_
  refine lv_ifnonnull (tgt := 15) hx hb dX11_blank_10 (by decide) ?_
  refine lv_aload_n hx hb dX11_blank_15 rfl (lv_at hl 0 rfl) ?_
  refine kV_v (rest := []) (q0 := 0) (ci := 10) hcf (m_X10_empty l dC dI cI cS H.size o4 a41 a42 a43 l4 f41 f43 ) kc_X10_empty gX11_blank_X10_empty rfl rfl rfl ⟨Nat.le_of_ble_eq_true rfl, Nat.le_of_ble_eq_true rfl⟩ kX_t hK hP hD hS hA (posT mk_115 0) (posF mk_115 0) (kC_of mk_115 rfl rfl) (by decide +kernel) rfl rfl rfl hl rfl (Nat.le_of_ble_eq_true rfl) dX11_blank_16 ⟨Nat.le_of_ble_eq_true rfl, Nat.le_of_ble_eq_true rfl⟩ (fun H locs hB hJ hSn => ?_)
  refine hB _ (fun lt_2 ft1_2 ft3_2 hPD9 hf2_0 hf2_1 hf2_2 => ?_)
  clear hB
  obtain ⟨hPn, hDn⟩ := kJi (m := mk_115) hJ rfl hPD9.1 hPD9.2 (wn := [(oX, .inr (11, [.ref nT, .ref nL, .ref nM, .ref oC, .ref oP, .ref oH, .ref oK, .ref oG, .ref oR, .ref oQ, .ref oW, .int fa])), (oC, .inr (2, [.ref o4, .ref o5])), (o4, .inr (10, [.ref a41, .ref a42, .ref a43, .int lt_2])), (a41, .inl (cI, 256, .inl ft1_2)), (a43, .inl (cI, 512, .inl ft3_2)), (oW, .inr (1, [.ref oC, .ref oK, .ref nw, .ref w1, .ref w2, .ref w3, .ref o7, .ref o8, .ref o9, .ref w4, .ref w5, .ref w6, .ref w7, .int ke, .int tl, .int fsh, .int wi, .int ri, .int fm, .int lm]))]) rfl
  clear hP hD hS hJ hPD9
  have hP := hPn
  have hD := hDn
  have hS := hSn
  clear hPn hDn hSn
  refine lv_aload_n hx hb dX11_blank_19 rfl (lv_at hl 1 rfl) ?_
  refine va_get (D := (dC, dI)) (ci := 11) (v := .ref oW) (C := RX11) (T := TX11) (N := 12) hx hb hts in_X11 hown hK hP 0 rfl rfl 10 (Nat.le_of_ble_eq_true rfl) (hts (.fieldLink RX11 86 "TextMender" "choiceBook" "LTextMender$Choices;") (List.mem_of_getElem? (i := 2) rfl)) (fun _ h9 => h9) rfl dX11_blank_20 ?_
  refine kV_v (rest := []) (q0 := 0) (ci := 1) hcf (f_X1_forgetFreshness l dC dI cI cS H.size oW oC oK nw w1 w2 w3 o7 o8 o9 w4 w5 w6 w7 ke tl fsh wi ri fm lm (g_ke) (g_fsh) (g_fm) (g_lm)) kc_X1_forgetFreshness gX11_blank_X1_forgetFreshness rfl rfl rfl ⟨Nat.le_of_ble_eq_true rfl, Nat.le_of_ble_eq_true rfl⟩ kX_t hK hP hD hS hA (posT mk_116 0) (posF mk_116 0) (kC_of mk_116 rfl rfl) (by decide +kernel) rfl rfl rfl hl rfl (Nat.le_of_ble_eq_true rfl) dX11_blank_23 ⟨Nat.le_of_ble_eq_true rfl, Nat.le_of_ble_eq_true rfl⟩ (fun H locs hB hJ hSn => ?_)
  refine hB _ (fun fsh_3 hPD9 hf3_0 hf3_1 => ?_)
  clear hB
  obtain ⟨hPn, hDn⟩ := kJi (m := mk_116) hJ rfl hPD9.1 hPD9.2 (wn := [(oX, .inr (11, [.ref nT, .ref nL, .ref nM, .ref oC, .ref oP, .ref oH, .ref oK, .ref oG, .ref oR, .ref oQ, .ref oW, .int fa])), (oC, .inr (2, [.ref o4, .ref o5])), (o4, .inr (10, [.ref a41, .ref a42, .ref a43, .int lt_2])), (a41, .inl (cI, 256, .inl ft1_2)), (a43, .inl (cI, 512, .inl ft3_2)), (oW, .inr (1, [.ref oC, .ref oK, .ref nw, .ref w1, .ref w2, .ref w3, .ref o7, .ref o8, .ref o9, .ref w4, .ref w5, .ref w6, .ref w7, .int ke, .int tl, .int fsh_3, .int wi, .int ri, .int fm, .int lm]))]) rfl
  clear hP hD hS hJ hPD9
  have hP := hPn
  have hD := hDn
  have hS := hSn
  clear hPn hDn hSn
  refine lv_iconst (v := 1) hx hb dX11_blank_26 (by decide) ?_
  exact kl_z (v := 1) hQQ hx hb hr hlocks hS dX11_blank_27 (rfl) (fun PZ9 kZ9 => kZ9 fsh_3 lt_2 ft1_2 ft3_2 (⟨hP, hD⟩) (hf3_0) (rfl) (hf2_0) (hf2_1) (hf2_2) (hf3_1))

set_option maxHeartbeats 40000000 in
set_option maxRecDepth 100000 in
theorem f_span_5 (l : Launch) (dC : Nat → ClassId) (dI : Nat → Nat → Nat) (cI cS : ClassId) (sz : Nat) (oX : Nat) (nT : Nat) (nL : Nat) (nM : Nat) (oC : Nat) (oP : Nat) (oH : Nat) (oK : Nat) (oG : Nat) (oR : Nat) (oQ : Nat) (oW : Nat) (o4 : Nat) (o5 : Nat) (a51 : Nat) (a52 : Nat) (a53 : Nat) (nw : Nat) (w1 : Nat) (w2 : Nat) (w3 : Nat) (o7 : Nat) (o8 : Nat) (o9 : Nat) (w4 : Nat) (w5 : Nat) (w6 : Nat) (w7 : Nat) (fa : Int32) (l5 : Int32) (f51 : Nat → Int32) (f52 : Nat → Int32) (f53 : Nat → Int32) (ke : Int32) (tl : Int32) (fsh : Int32) (wi : Int32) (ri : Int32) (fm : Int32) (lm : Int32) (cd : Int32) (fr : Int32) (n : Int32) (le : Int32) (sp : Int32) (g_ke : 0 ≤ ke.toInt ∧ ke.toInt ≤ 200) (g_fsh : 0 ≤ fsh.toInt ∧ fsh.toInt ≤ 1) (g_fm : -1 ≤ fm.toInt ∧ fm.toInt ≤ 800) (g_lm : -1 ≤ lm.toInt ∧ lm.toInt ≤ 800) (hcd : cd.toInt = 5) (hT : HT 512 511 hsT f52 f53) (hoo : occ f53 512 ≤ occ f51 256) : kMi l yX11_span wsX11_span ({ frames := 3, cells := 0, slots := 0, locals := 73 } : Room) [.ref oX, .int cd, .int fr, .int n, .int le, .int sp] sz (dC, dI) vwCl [(cI, .int), (cS, .short)] [(oX, .inr (11, [.ref nT, .ref nL, .ref nM, .ref oC, .ref oP, .ref oH, .ref oK, .ref oG, .ref oR, .ref oQ, .ref oW, .int fa])), (oC, .inr (2, [.ref o4, .ref o5])), (o5, .inr (10, [.ref a51, .ref a52, .ref a53, .int l5])), (a51, .inl (cI, 256, .inl f51)), (a52, .inl (cI, 512, .inl f52)), (a53, .inl (cI, 512, .inl f53)), (oW, .inr (1, [.ref oC, .ref oK, .ref nw, .ref w1, .ref w2, .ref w3, .ref o7, .ref o8, .ref o9, .ref w4, .ref w5, .ref w6, .ref w7, .int ke, .int tl, .int fsh, .int wi, .int ri, .int fm, .int lm]))] (va_Nw (.methodLinkNest RX10 35 yX11_isLetter "TextMender")) 0 0 (fun (A : Nat → Prop) (r : Int32) (hh9 : Heap) => ∀ PZ9 : Prop, (∀ (fa' : Int32) (fsh' : Int32) (l5' : Int32) (f51' : Nat → Int32) (f52' : Nat → Int32) (f53' : Nat → Int32), kPD (dC, dI) vwCl A [(oX, .inr (11, [.ref nT, .ref nL, .ref nM, .ref oC, .ref oP, .ref oH, .ref oK, .ref oG, .ref oR, .ref oQ, .ref oW, .int fa'])), (oC, .inr (2, [.ref o4, .ref o5])), (o5, .inr (10, [.ref a51, .ref a52, .ref a53, .int l5'])), (a51, .inl (cI, 256, .inl f51')), (a52, .inl (cI, 512, .inl f52')), (a53, .inl (cI, 512, .inl f53')), (oW, .inr (1, [.ref oC, .ref oK, .ref nw, .ref w1, .ref w2, .ref w3, .ref o7, .ref o8, .ref o9, .ref w4, .ref w5, .ref w6, .ref w7, .int ke, .int tl, .int fsh', .int wi, .int ri, .int fm, .int lm]))] hh9 → (0 ≤ fsh'.toInt ∧ fsh'.toInt ≤ 1) → (F_spanC r fr n le sp l5 l5' f51 f51' f52 f52' f53 f53') → (F_fsP (CT fr n le sp (fun k => f51 k = -1) (nTd f52 f53)) fsh fsh') → PZ9) → PZ9) := by
  refine kMi_of (cc := cX11_span) (maxL := 8) (ret := (some .int)) (lv := [(0, .ref oX), (1, .int cd), (2, .int fr), (3, .int n), (4, .int le), (5, .int sp)]) (by decide +kernel) rfl rfl (Nat.le_of_ble_eq_true rfl) ?_
  intro p e s m below meth c A QQ ls hx hb hr hts hml hown hlocks hA hQQ hK hX hP hD hS hl
  have hown : s.vm.findClass RX11 = some m.cls := hown
  have hcf := k_cf hx hb hml hown hts
  have hN35 := hX
  have in_X11 : ∀ w ∈ wsX110, w ∈ wsX11_span := fun _ h => List.mem_cons_of_mem _ (List.mem_append_left _ (List.mem_append_left _ (List.mem_append_left _ (List.mem_append_left _ (List.mem_append_left _ (List.mem_append_left _ (List.mem_append_left _ (List.mem_append_left _ (List.mem_append_right _ (h))))))))))
  replace g_ke := hid g_ke
  replace g_fm := hid g_fm
  replace g_lm := hid g_lm
  refine lv_aload_n hx hb dX11_span_0 rfl (lv_at hl 0 rfl) ?_
  refine lv_iconst (v := (-1)) hx hb dX11_span_1 (by decide) ?_
  refine va_put (D := (dC, dI)) (ci := 11) (v := .int (-1)) (ty := .int) (C := RX11) (T := TX11) (N := 12) hx hb hts in_X11 tyX11 tyX11_ok nmX11 hown hK hP hD hS 0 rfl rfl 11 (Nat.le_of_ble_eq_true rfl) (hts (.fieldLink RX11 90 "TextMender" "fault" "I") (List.mem_of_getElem? (i := 1) rfl)) (fun _ h9 => h9) rfl (tyX11_ok 11 (Nat.le_of_ble_eq_true rfl)) rfl rfl (Nat.le_of_ble_eq_true rfl) dX11_span_2 (kW (wn := [(oX, .inr (11, [.ref nT, .ref nL, .ref nM, .ref oC, .ref oP, .ref oH, .ref oK, .ref oG, .ref oR, .ref oQ, .ref oW, .int (-1)])), (oC, .inr (2, [.ref o4, .ref o5])), (o5, .inr (10, [.ref a51, .ref a52, .ref a53, .int l5])), (a51, .inl (cI, 256, .inl f51)), (a52, .inl (cI, 512, .inl f52)), (a53, .inl (cI, 512, .inl f53)), (oW, .inr (1, [.ref oC, .ref oK, .ref nw, .ref w1, .ref w2, .ref w3, .ref o7, .ref o8, .ref o9, .ref w4, .ref w5, .ref w6, .ref w7, .int ke, .int tl, .int fsh, .int wi, .int ri, .int fm, .int lm]))]) rfl (fun H locs hPn hDn hSn => ?_))
  clear hP hD hS
  have hP := hPn
  have hD := hDn
  have hS := hSn
  clear hPn hDn hSn
  refine lv_aload_n hx hb dX11_span_5 rfl (lv_at hl 0 rfl) ?_
  refine va_get (D := (dC, dI)) (ci := 11) (v := .ref oC) (C := RX11) (T := TX11) (N := 12) hx hb hts in_X11 hown hK hP 0 rfl rfl 3 (Nat.le_of_ble_eq_true rfl) (hts (.fieldLink RX11 40 "TextMender" "codes" "LTextMender$Codes;") (List.mem_of_getElem? (i := 2) rfl)) (fun _ h9 => h9) rfl dX11_span_6 ?_
  refine lv_iload_n hx hb dX11_span_9 rfl (lv_at hl 1 rfl) ?_
  refine kV_r (rest := []) (q0 := 0) (ci := 2) hcf (m_X2_toldCode_5 l dC dI cI cS H.size oC o4 o5 cd (by omega)) kc_X2_toldCode gX11_span_X2_toldCode rfl rfl rfl ⟨Nat.le_of_ble_eq_true rfl, Nat.le_of_ble_eq_true rfl⟩ kX_t hK hP hD hS hA (posT mk_110 0) (posF mk_110 0) (kC_of mk_110 rfl rfl) (by decide +kernel) rfl rfl rfl hl rfl (Nat.le_of_ble_eq_true rfl) dX11_span_10 ⟨Nat.le_of_ble_eq_true rfl, Nat.le_of_ble_eq_true rfl⟩ (fun r_1 H locs hB hJ hSn => ?_)
  refine And.elim (fun hra hBr => ?_) hB
  clear hB
  refine hBr _ (fun hPD9 => ?_)
  clear hBr
  rw [hra]
  obtain ⟨hPn, hDn⟩ := kJi (m := mk_110) hJ rfl hPD9.1 hPD9.2 (wn := [(oX, .inr (11, [.ref nT, .ref nL, .ref nM, .ref oC, .ref oP, .ref oH, .ref oK, .ref oG, .ref oR, .ref oQ, .ref oW, .int (-1)])), (oC, .inr (2, [.ref o4, .ref o5])), (o5, .inr (10, [.ref a51, .ref a52, .ref a53, .int l5])), (a51, .inl (cI, 256, .inl f51)), (a52, .inl (cI, 512, .inl f52)), (a53, .inl (cI, 512, .inl f53)), (oW, .inr (1, [.ref oC, .ref oK, .ref nw, .ref w1, .ref w2, .ref w3, .ref o7, .ref o8, .ref o9, .ref w4, .ref w5, .ref w6, .ref w7, .int ke, .int tl, .int fsh, .int wi, .int ri, .int fm, .int lm]))]) rfl
  clear hP hD hS hJ hPD9
  have hP := hPn
  have hD := hDn
  have hS := hSn
  clear hPn hDn hSn
  refine lv_astore (lv' := [(6, .ref o5), (0, .ref oX), (1, .int cd), (2, .int fr), (3, .int n), (4, .int le), (5, .int sp)]) hx hb dX11_span_13 hl (by decide) rfl (fun ls hl => ?_)
  refine lv_aload hx hb dX11_span_15 (lv_at hl 0 rfl) ?_
  refine lv_ifnull hx hb dX11_span_17 ?_
  refine lv_aload hx hb dX11_span_20 (lv_at hl 0 rfl) ?_
  refine lv_iload_n hx hb dX11_span_22 rfl (lv_at hl 3 rfl) ?_
  refine lv_iload_n hx hb dX11_span_23 rfl (lv_at hl 4 rfl) ?_
  refine lv_iload hx hb dX11_span_24 (lv_at hl 5 rfl) ?_
  refine lv_iload hx hb dX11_span_26 (lv_at hl 6 rfl) ?_
  refine kV_i (rest := []) (q0 := 0) (ci := 10) hcf (f_X10_canTake l dC dI cI cS H.size o5 a51 a52 a53 l5 f51 f52 f53 fr n le sp (hT) (occ_511 hoo)) kc_X10_canTake gX11_span_X10_canTake rfl rfl rfl ⟨Nat.le_of_ble_eq_true rfl, Nat.le_of_ble_eq_true rfl⟩ (kX_1 hN35) hK hP hD hS hA (posT mk_111 0) (posF mk_111 0) (kC_of mk_111 rfl rfl) (by decide +kernel) rfl rfl rfl hl rfl (Nat.le_of_ble_eq_true rfl) dX11_span_28 ⟨Nat.le_of_ble_eq_true rfl, Nat.le_of_ble_eq_true rfl⟩ (fun r_2 H locs hB hJ hSn => ?_)
  refine hB _ (fun hPD9 hf2_0 hf2_1 => ?_)
  clear hB
  obtain ⟨hPn, hDn⟩ := kJi (m := mk_111) hJ rfl hPD9.1 hPD9.2 (wn := [(oX, .inr (11, [.ref nT, .ref nL, .ref nM, .ref oC, .ref oP, .ref oH, .ref oK, .ref oG, .ref oR, .ref oQ, .ref oW, .int (-1)])), (oC, .inr (2, [.ref o4, .ref o5])), (o5, .inr (10, [.ref a51, .ref a52, .ref a53, .int l5])), (a51, .inl (cI, 256, .inl f51)), (a52, .inl (cI, 512, .inl f52)), (a53, .inl (cI, 512, .inl f53)), (oW, .inr (1, [.ref oC, .ref oK, .ref nw, .ref w1, .ref w2, .ref w3, .ref o7, .ref o8, .ref o9, .ref w4, .ref w5, .ref w6, .ref w7, .int ke, .int tl, .int fsh, .int wi, .int ri, .int fm, .int lm]))]) rfl
  clear hP hD hS hJ hPD9
  have hP := hPn
  have hD := hDn
  have hS := hSn
  clear hPn hDn hSn
  refine lv_if_ne (tgt := 36) hx hb dX11_span_31 (by decide) (fun c_3 => ?_) (fun c_3 => ?_)
  · have tc_3 : ¬ r_2.toInt = 0 := v_ne c_3
    refine lv_iconst (v := 0) hx hb dX11_span_36 (by decide) ?_
    refine lv_istore (lv' := [(7, .int 0), (6, .ref o5), (0, .ref oX), (1, .int cd), (2, .int fr), (3, .int n), (4, .int le), (5, .int sp)]) hx hb dX11_span_37 hl (by decide) rfl (fun ls hl => ?_)
    have hCT := F_ct_1 hf2_1 (by omega)
    obtain ⟨hb1, hb2, hb3, hb4, hb5, hb6, hb7, hb8⟩ := hCT.1
    have LOOP_39 : ∀ (k_39 : Nat) (i : Int32) (l5a : Int32) (f51a : Nat → Int32) (f52a : Nat → Int32) (f53a : Nat → Int32) (H : Heap) (locs : List Loc) (ls : Array Slot), MSd (256 - i.toInt : Int) k_39 → (0 ≤ i.toInt ∧ i.toInt ≤ 256) → (i.toInt ≤ n.toInt) → (SPC i l5 l5a fr le sp f51 f52 f53 f51a f52a f53a) → va_P (dC, dI) vwCl [(oX, .inr (11, [.ref nT, .ref nL, .ref nM, .ref oC, .ref oP, .ref oH, .ref oK, .ref oG, .ref oR, .ref oQ, .ref oW, .int (-1)])), (oC, .inr (2, [.ref o4, .ref o5])), (o5, .inr (10, [.ref a51, .ref a52, .ref a53, .int l5a])), (a51, .inl (cI, 256, .inl f51a)), (a52, .inl (cI, 512, .inl f52a)), (a53, .inl (cI, 512, .inl f53a)), (oW, .inr (1, [.ref oC, .ref oK, .ref nw, .ref w1, .ref w2, .ref w3, .ref o7, .ref o8, .ref o9, .ref w4, .ref w5, .ref w6, .ref w7, .int ke, .int tl, .int fsh, .int wi, .int ri, .int fm, .int lm]))] H → va_D A [(oX, .inr (11, [.ref nT, .ref nL, .ref nM, .ref oC, .ref oP, .ref oH, .ref oK, .ref oG, .ref oR, .ref oQ, .ref oW, .int (-1)])), (oC, .inr (2, [.ref o4, .ref o5])), (o5, .inr (10, [.ref a51, .ref a52, .ref a53, .int l5a])), (a51, .inl (cI, 256, .inl f51a)), (a52, .inl (cI, 512, .inl f52a)), (a53, .inl (cI, 512, .inl f53a)), (oW, .inr (1, [.ref oC, .ref oK, .ref nw, .ref w1, .ref w2, .ref w3, .ref o7, .ref o8, .ref o9, .ref w4, .ref w5, .ref w6, .ref w7, .int ke, .int tl, .int fsh, .int wi, .int ri, .int fm, .int lm]))] → va_S A s.heap H locs → lv_has ls 8 [(7, .int i), (6, .ref o5), (0, .ref oX), (1, .int cd), (2, .int fr), (3, .int n), (4, .int le), (5, .int sp)] → W p l e (headSpec wsX11_span ({ frames := 3, cells := 0, slots := 0, locals := 73 } : Room)).room s m ([.ref oX, .int cd, .int fr, .int n, .int le, .int sp] : List Value).toArray below meth c H locs 0 0 (MQ below QQ ([.ref oX, .int cd, .int fr, .int n, .int le, .int sp] : List Value).toArray s 0 0 A) (F0 m 39 ls []) := by
      clear hP hD hS hl
      try (clear hcd)
      intro k_39
      induction k_39 with
      | zero =>
        intro i l5a f51a f52a f53a H locs ls hm_39 g_i hin hsp hP hD hS hl
        exact ms_0 hm_39
      | succ k_39 ih_39 =>
        intro i l5a f51a f52a f53a H locs ls hm_39 g_i hin hsp hP hD hS hl
        refine lv_iload hx hb dX11_span_39 (lv_at hl 0 rfl) ?_
        refine lv_iload_n hx hb dX11_span_41 rfl (lv_at hl 5 rfl) ?_
        refine lv_icmp_ge (tgt := 68) hx hb dX11_span_42 (by decide) (fun c_4 => ?_) (fun c_4 => ?_)
        · have tc_4 : n.toInt ≤ i.toInt := v_le c_4
          refine lv_aload_n hx hb dX11_span_68 rfl (lv_at hl 2 rfl) ?_
          refine va_get (D := (dC, dI)) (ci := 11) (v := .ref oW) (C := RX11) (T := TX11) (N := 12) hx hb hts in_X11 hown hK hP 0 rfl rfl 10 (Nat.le_of_ble_eq_true rfl) (hts (.fieldLink RX11 86 "TextMender" "choiceBook" "LTextMender$Choices;") (List.mem_of_getElem? (i := 3) rfl)) (fun _ h9 => h9) rfl dX11_span_69 ?_
          refine kV_v (rest := []) (q0 := 0) (ci := 1) hcf (f_X1_forgetFreshness l dC dI cI cS H.size oW oC oK nw w1 w2 w3 o7 o8 o9 w4 w5 w6 w7 ke tl fsh wi ri fm lm (g_ke) (g_fsh) (g_fm) (g_lm)) kc_X1_forgetFreshness gX11_span_X1_forgetFreshness rfl rfl rfl ⟨Nat.le_of_ble_eq_true rfl, Nat.le_of_ble_eq_true rfl⟩ kX_t hK hP hD hS hA (posT mk_112 0) (posF mk_112 0) (kC_of mk_112 rfl rfl) (by decide +kernel) rfl rfl rfl hl rfl (Nat.le_of_ble_eq_true rfl) dX11_span_72 ⟨Nat.le_of_ble_eq_true rfl, Nat.le_of_ble_eq_true rfl⟩ (fun H locs hB hJ hSn => ?_)
          refine hB _ (fun fsh_5 hPD9 hf5_0 hf5_1 => ?_)
          clear hB
          obtain ⟨hPn, hDn⟩ := kJi (m := mk_112) hJ rfl hPD9.1 hPD9.2 (wn := [(oX, .inr (11, [.ref nT, .ref nL, .ref nM, .ref oC, .ref oP, .ref oH, .ref oK, .ref oG, .ref oR, .ref oQ, .ref oW, .int (-1)])), (oC, .inr (2, [.ref o4, .ref o5])), (o5, .inr (10, [.ref a51, .ref a52, .ref a53, .int l5a])), (a51, .inl (cI, 256, .inl f51a)), (a52, .inl (cI, 512, .inl f52a)), (a53, .inl (cI, 512, .inl f53a)), (oW, .inr (1, [.ref oC, .ref oK, .ref nw, .ref w1, .ref w2, .ref w3, .ref o7, .ref o8, .ref o9, .ref w4, .ref w5, .ref w6, .ref w7, .int ke, .int tl, .int fsh_5, .int wi, .int ri, .int fm, .int lm]))]) rfl
          clear hP hD hS hJ hPD9
          have hP := hPn
          have hD := hDn
          have hS := hSn
          clear hPn hDn hSn
          refine lv_aload hx hb dX11_span_75 (lv_at hl 1 rfl) ?_
          refine kV_i (rest := []) (q0 := 0) (ci := 10) hcf (m_X10_length l dC dI cI cS H.size o5 a51 a52 a53 l5a ) kc_X10_length gX11_span_X10_length rfl rfl rfl ⟨Nat.le_of_ble_eq_true rfl, Nat.le_of_ble_eq_true rfl⟩ kX_t hK hP hD hS hA (posT mk_113 0) (posF mk_113 0) (kC_of mk_113 rfl rfl) (by decide +kernel) rfl rfl rfl hl rfl (Nat.le_of_ble_eq_true rfl) dX11_span_77 ⟨Nat.le_of_ble_eq_true rfl, Nat.le_of_ble_eq_true rfl⟩ (fun r_6 H locs hB hJ hSn => ?_)
          refine hB _ (fun hPD9 hf6_0 => ?_)
          clear hB
          obtain ⟨hPn, hDn⟩ := kJi (m := mk_113) hJ rfl hPD9.1 hPD9.2 (wn := [(oX, .inr (11, [.ref nT, .ref nL, .ref nM, .ref oC, .ref oP, .ref oH, .ref oK, .ref oG, .ref oR, .ref oQ, .ref oW, .int (-1)])), (oC, .inr (2, [.ref o4, .ref o5])), (o5, .inr (10, [.ref a51, .ref a52, .ref a53, .int l5a])), (a51, .inl (cI, 256, .inl f51a)), (a52, .inl (cI, 512, .inl f52a)), (a53, .inl (cI, 512, .inl f53a)), (oW, .inr (1, [.ref oC, .ref oK, .ref nw, .ref w1, .ref w2, .ref w3, .ref o7, .ref o8, .ref o9, .ref w4, .ref w5, .ref w6, .ref w7, .int ke, .int tl, .int fsh_5, .int wi, .int ri, .int fm, .int lm]))]) rfl
          clear hP hD hS hJ hPD9
          have hP := hPn
          have hD := hDn
          have hS := hSn
          clear hPn hDn hSn
          rw [hf6_0]
          exact kl_i (v := l5a) hQQ hx hb hr hlocks hS dX11_span_80 (fun PZ9 kZ9 => kZ9 (-1) fsh_5 l5a f51a f52a f53a (⟨hP, hD⟩) (hf5_0) (Or.inl ⟨hCT, SPC_n hsp (by omega), rfl⟩) (Or.inl ⟨hCT, hf5_1⟩))
        · have tc_4 : i.toInt < n.toInt := v_nle c_4
          refine lv_aload hx hb dX11_span_45 (lv_at hl 1 rfl) ?_
          refine lv_iload_n hx hb dX11_span_47 rfl (lv_at hl 4 rfl) ?_
          refine lv_iload hx hb dX11_span_48 (lv_at hl 0 rfl) ?_
          refine lv_iadd hx hb dX11_span_50 ?_
          refine lv_topi (fun x_7 ex_7 => ?_)
          have tx_7 : x_7.toInt = fr.toInt + i.toInt := v_add ex_7 (by show -2147483648 ≤ fr.toInt + i.toInt; omega) (by show fr.toInt + i.toInt < 2147483648; omega)
          refine lv_iload hx hb dX11_span_51 (lv_at hl 6 rfl) ?_
          refine lv_iload hx hb dX11_span_53 (lv_at hl 0 rfl) ?_
          refine lv_iload hx hb dX11_span_55 (lv_at hl 7 rfl) ?_
          refine lv_imul hx hb dX11_span_57 ?_
          refine lv_topi (fun x_8 ex_8 => ?_)
          have rv8_1 := v_rng sp
          refine lv_iadd hx hb dX11_span_58 ?_
          refine lv_topi (fun x_9 ex_9 => ?_)
          have rv9_0 := v_rng le
          have rv9_1 := v_rng x_8
          refine kV_v (rest := []) (q0 := 0) (ci := 10) hcf (f_X10_tell l dC dI cI cS H.size o5 a51 a52 a53 l5a f51a f52a f53a x_7 x_9 (by omega) (hsp.2.1) (occ_511 hsp.2.2.1)) kc_X10_tell gX11_span_X10_tell rfl rfl rfl ⟨Nat.le_of_ble_eq_true rfl, Nat.le_of_ble_eq_true rfl⟩ kX_t hK hP hD hS hA (posT mk_111 0) (posF mk_111 0) (kC_of mk_111 rfl rfl) (by decide +kernel) rfl rfl rfl hl rfl (Nat.le_of_ble_eq_true rfl) dX11_span_59 ⟨Nat.le_of_ble_eq_true rfl, Nat.le_of_ble_eq_true rfl⟩ (fun H locs hB hJ hSn => ?_)
          refine hB _ (fun lt_10 ft1_10 ft2_10 ft3_10 hPD9 hf10_0 => ?_)
          clear hB
          obtain ⟨hPn, hDn⟩ := kJi (m := mk_111) hJ rfl hPD9.1 hPD9.2 (wn := [(oX, .inr (11, [.ref nT, .ref nL, .ref nM, .ref oC, .ref oP, .ref oH, .ref oK, .ref oG, .ref oR, .ref oQ, .ref oW, .int (-1)])), (oC, .inr (2, [.ref o4, .ref o5])), (o5, .inr (10, [.ref a51, .ref a52, .ref a53, .int lt_10])), (a51, .inl (cI, 256, .inl ft1_10)), (a52, .inl (cI, 512, .inl ft2_10)), (a53, .inl (cI, 512, .inl ft3_10)), (oW, .inr (1, [.ref oC, .ref oK, .ref nw, .ref w1, .ref w2, .ref w3, .ref o7, .ref o8, .ref o9, .ref w4, .ref w5, .ref w6, .ref w7, .int ke, .int tl, .int fsh, .int wi, .int ri, .int fm, .int lm]))]) rfl
          clear hP hD hS hJ hPD9
          have hP := hPn
          have hD := hDn
          have hS := hSn
          clear hPn hDn hSn
          obtain ⟨x_11, ex_11⟩ : ∃ y : Int32, y = i + 1 := ⟨_, rfl⟩
          have tx_11 : x_11.toInt = i.toInt + 1 := v_addR (l2 := 1) (h2 := 1) ex_11 g_i (by decide) (by decide) (by decide)
          refine lv_iinc (v := x_11) (lv' := [(7, .int x_11), (6, .ref o5), (0, .ref oX), (1, .int cd), (2, .int fr), (3, .int n), (4, .int le), (5, .int sp)]) hx hb dX11_span_62 hl (k := 0) rfl (by rw [ex_11]; rfl) (by decide) rfl (fun ls hl => ?_)
          refine lv_goto (tgt := 39) hx hb dX11_span_65 (by decide) ?_
          exact ih_39 x_11 lt_10 ft1_10 ft2_10 ft3_10 _ _ _ (ms_lt hm_39 (by show ((256 - x_11.toInt : Int)) < 256 - i.toInt; omega) (by show (0 : Int) < 256 - i.toInt; omega)) (by show 0 ≤ x_11.toInt ∧ x_11.toInt ≤ 256; omega) (by show x_11.toInt ≤ n.toInt; omega) (SPC_s hCT hsp (by omega) (by omega) ex_8 ex_9 (by omega) hf10_0 (by omega)) hP hD hS (lv_sub hl [0, 1, 2, 3, 4, 5, 6, 7] rfl)
    exact LOOP_39 _ 0 l5 f51 f52 f53 _ _ _ (ms_s _) (by decide) (by show 0 ≤ n.toInt; omega) (SPC_0 hT hoo) hP hD hS (lv_sub hl [0, 1, 2, 3, 4, 5, 6, 7] rfl)
  · have tc_3 : r_2.toInt = 0 := v_eq c_3
    refine lv_iconst (v := (-1)) hx hb dX11_span_34 (by decide) ?_
    exact kl_i (v := (-1)) hQQ hx hb hr hlocks hS dX11_span_35 (fun PZ9 kZ9 => kZ9 (-1) fsh l5 f51 f52 f53 (⟨hP, hD⟩) (g_fsh) (Or.inr ⟨rfl, rfl, rfl, rfl, rfl, F_ct_0 hf2_1 (by omega)⟩) (Or.inr ⟨F_ct_0 hf2_1 (by omega), rfl⟩))

set_option maxHeartbeats 40000000 in
set_option maxRecDepth 100000 in
theorem f_blank_5 (l : Launch) (dC : Nat → ClassId) (dI : Nat → Nat → Nat) (cI cS : ClassId) (sz : Nat) (oX : Nat) (nT : Nat) (nL : Nat) (nM : Nat) (oC : Nat) (oP : Nat) (oH : Nat) (oK : Nat) (oG : Nat) (oR : Nat) (oQ : Nat) (oW : Nat) (o4 : Nat) (o5 : Nat) (a51 : Nat) (a52 : Nat) (a53 : Nat) (nw : Nat) (w1 : Nat) (w2 : Nat) (w3 : Nat) (o7 : Nat) (o8 : Nat) (o9 : Nat) (w4 : Nat) (w5 : Nat) (w6 : Nat) (w7 : Nat) (fa : Int32) (l5 : Int32) (f51 : Nat → Int32) (f53 : Nat → Int32) (ke : Int32) (tl : Int32) (fsh : Int32) (wi : Int32) (ri : Int32) (fm : Int32) (lm : Int32) (cd : Int32) (g_ke : 0 ≤ ke.toInt ∧ ke.toInt ≤ 200) (g_fsh : 0 ≤ fsh.toInt ∧ fsh.toInt ≤ 1) (g_fm : -1 ≤ fm.toInt ∧ fm.toInt ≤ 800) (g_lm : -1 ≤ lm.toInt ∧ lm.toInt ≤ 800) (hcd : cd.toInt = 5) : kMi l yX11_blank wsX11_blank ({ frames := 2, cells := 0, slots := 0, locals := 43 } : Room) [.ref oX, .int cd] sz (dC, dI) vwCl [(cI, .int), (cS, .short)] [(oX, .inr (11, [.ref nT, .ref nL, .ref nM, .ref oC, .ref oP, .ref oH, .ref oK, .ref oG, .ref oR, .ref oQ, .ref oW, .int fa])), (oC, .inr (2, [.ref o4, .ref o5])), (o5, .inr (10, [.ref a51, .ref a52, .ref a53, .int l5])), (a51, .inl (cI, 256, .inl f51)), (a53, .inl (cI, 512, .inl f53)), (oW, .inr (1, [.ref oC, .ref oK, .ref nw, .ref w1, .ref w2, .ref w3, .ref o7, .ref o8, .ref o9, .ref w4, .ref w5, .ref w6, .ref w7, .int ke, .int tl, .int fsh, .int wi, .int ri, .int fm, .int lm]))] (fun _ => True) 0 0 (fun (A : Nat → Prop) (r : Int32) (hh9 : Heap) => ∀ PZ9 : Prop, (∀ (fsh' : Int32) (l5' : Int32) (f51' : Nat → Int32) (f53' : Nat → Int32), kPD (dC, dI) vwCl A [(oX, .inr (11, [.ref nT, .ref nL, .ref nM, .ref oC, .ref oP, .ref oH, .ref oK, .ref oG, .ref oR, .ref oQ, .ref oW, .int fa])), (oC, .inr (2, [.ref o4, .ref o5])), (o5, .inr (10, [.ref a51, .ref a52, .ref a53, .int l5'])), (a51, .inl (cI, 256, .inl f51')), (a53, .inl (cI, 512, .inl f53')), (oW, .inr (1, [.ref oC, .ref oK, .ref nw, .ref w1, .ref w2, .ref w3, .ref o7, .ref o8, .ref o9, .ref w4, .ref w5, .ref w6, .ref w7, .int ke, .int tl, .int fsh', .int wi, .int ri, .int fm, .int lm]))] hh9 → (0 ≤ fsh'.toInt ∧ fsh'.toInt ≤ 1) → (r = 1) → (l5' = 0) → (F_fill 256 f51' (-1)) → (F_fill 512 f53' (-1)) → (fsh' = 0) → PZ9) → PZ9) := by
  refine kMi_of (cc := cX11_blank) (maxL := 3) (ret := (some .boolean)) (lv := [(0, .ref oX), (1, .int cd)]) (by decide +kernel) rfl rfl (Nat.le_of_ble_eq_true rfl) ?_
  intro p e s m below meth c A QQ ls hx hb hr hts hml hown hlocks hA hQQ hK hX hP hD hS hl
  have hown : s.vm.findClass RX11 = some m.cls := hown
  have hcf := k_cf hx hb hml hown hts
  have in_X11 : ∀ w ∈ wsX110, w ∈ wsX11_blank := fun _ h => List.mem_cons_of_mem _ (List.mem_append_left _ (List.mem_append_left _ (List.mem_append_left _ (List.mem_append_left _ (List.mem_append_left _ (List.mem_append_left _ (List.mem_append_right _ (h))))))))
  replace g_ke := hid g_ke
  replace g_fsh := hid g_fsh
  replace g_fm := hid g_fm
  replace g_lm := hid g_lm
  refine lv_aload_n hx hb dX11_blank_0 rfl (lv_at hl 0 rfl) ?_
  refine va_get (D := (dC, dI)) (ci := 11) (v := .ref oC) (C := RX11) (T := TX11) (N := 12) hx hb hts in_X11 hown hK hP 0 rfl rfl 3 (Nat.le_of_ble_eq_true rfl) (hts (.fieldLink RX11 40 "TextMender" "codes" "LTextMender$Codes;") (List.mem_of_getElem? (i := 1) rfl)) (fun _ h9 => h9) rfl dX11_blank_1 ?_
  refine lv_iload_n hx hb dX11_blank_4 rfl (lv_at hl 1 rfl) ?_
  refine kV_r (rest := []) (q0 := 0) (ci := 2) hcf (m_X2_toldCode_5 l dC dI cI cS s.heap.size oC o4 o5 cd (by omega)) kc_X2_toldCode gX11_blank_X2_toldCode rfl rfl rfl ⟨Nat.le_of_ble_eq_true rfl, Nat.le_of_ble_eq_true rfl⟩ kX_t hK hP hD hS hA (posT mk_114 0) (posF mk_114 0) (kC_of mk_114 rfl rfl) (by decide +kernel) rfl rfl rfl hl rfl (Nat.le_of_ble_eq_true rfl) dX11_blank_5 ⟨Nat.le_of_ble_eq_true rfl, Nat.le_of_ble_eq_true rfl⟩ (fun r_1 H locs hB hJ hSn => ?_)
  refine And.elim (fun hra hBr => ?_) hB
  clear hB
  refine hBr _ (fun hPD9 => ?_)
  clear hBr
  rw [hra]
  obtain ⟨hPn, hDn⟩ := kJi (m := mk_114) hJ rfl hPD9.1 hPD9.2 (wn := [(oX, .inr (11, [.ref nT, .ref nL, .ref nM, .ref oC, .ref oP, .ref oH, .ref oK, .ref oG, .ref oR, .ref oQ, .ref oW, .int fa])), (oC, .inr (2, [.ref o4, .ref o5])), (o5, .inr (10, [.ref a51, .ref a52, .ref a53, .int l5])), (a51, .inl (cI, 256, .inl f51)), (a53, .inl (cI, 512, .inl f53)), (oW, .inr (1, [.ref oC, .ref oK, .ref nw, .ref w1, .ref w2, .ref w3, .ref o7, .ref o8, .ref o9, .ref w4, .ref w5, .ref w6, .ref w7, .int ke, .int tl, .int fsh, .int wi, .int ri, .int fm, .int lm]))]) rfl
  clear hP hD hS hJ hPD9
  have hP := hPn
  have hD := hDn
  have hS := hSn
  clear hPn hDn hSn
  refine lv_astore_n (lv' := [(2, .ref o5), (0, .ref oX), (1, .int cd)]) hx hb dX11_blank_8 rfl hl (by decide) rfl (fun ls hl => ?_)
  refine lv_aload_n hx hb dX11_blank_9 rfl (lv_at hl 0 rfl) ?_
  refine lv_ifnonnull (tgt := 15) hx hb dX11_blank_10 (by decide) ?_
  refine lv_aload_n hx hb dX11_blank_15 rfl (lv_at hl 0 rfl) ?_
  refine kV_v (rest := []) (q0 := 0) (ci := 10) hcf (m_X10_empty l dC dI cI cS H.size o5 a51 a52 a53 l5 f51 f53 ) kc_X10_empty gX11_blank_X10_empty rfl rfl rfl ⟨Nat.le_of_ble_eq_true rfl, Nat.le_of_ble_eq_true rfl⟩ kX_t hK hP hD hS hA (posT mk_115 0) (posF mk_115 0) (kC_of mk_115 rfl rfl) (by decide +kernel) rfl rfl rfl hl rfl (Nat.le_of_ble_eq_true rfl) dX11_blank_16 ⟨Nat.le_of_ble_eq_true rfl, Nat.le_of_ble_eq_true rfl⟩ (fun H locs hB hJ hSn => ?_)
  refine hB _ (fun lt_2 ft1_2 ft3_2 hPD9 hf2_0 hf2_1 hf2_2 => ?_)
  clear hB
  obtain ⟨hPn, hDn⟩ := kJi (m := mk_115) hJ rfl hPD9.1 hPD9.2 (wn := [(oX, .inr (11, [.ref nT, .ref nL, .ref nM, .ref oC, .ref oP, .ref oH, .ref oK, .ref oG, .ref oR, .ref oQ, .ref oW, .int fa])), (oC, .inr (2, [.ref o4, .ref o5])), (o5, .inr (10, [.ref a51, .ref a52, .ref a53, .int lt_2])), (a51, .inl (cI, 256, .inl ft1_2)), (a53, .inl (cI, 512, .inl ft3_2)), (oW, .inr (1, [.ref oC, .ref oK, .ref nw, .ref w1, .ref w2, .ref w3, .ref o7, .ref o8, .ref o9, .ref w4, .ref w5, .ref w6, .ref w7, .int ke, .int tl, .int fsh, .int wi, .int ri, .int fm, .int lm]))]) rfl
  clear hP hD hS hJ hPD9
  have hP := hPn
  have hD := hDn
  have hS := hSn
  clear hPn hDn hSn
  refine lv_aload_n hx hb dX11_blank_19 rfl (lv_at hl 1 rfl) ?_
  refine va_get (D := (dC, dI)) (ci := 11) (v := .ref oW) (C := RX11) (T := TX11) (N := 12) hx hb hts in_X11 hown hK hP 0 rfl rfl 10 (Nat.le_of_ble_eq_true rfl) (hts (.fieldLink RX11 86 "TextMender" "choiceBook" "LTextMender$Choices;") (List.mem_of_getElem? (i := 2) rfl)) (fun _ h9 => h9) rfl dX11_blank_20 ?_
  refine kV_v (rest := []) (q0 := 0) (ci := 1) hcf (f_X1_forgetFreshness l dC dI cI cS H.size oW oC oK nw w1 w2 w3 o7 o8 o9 w4 w5 w6 w7 ke tl fsh wi ri fm lm (g_ke) (g_fsh) (g_fm) (g_lm)) kc_X1_forgetFreshness gX11_blank_X1_forgetFreshness rfl rfl rfl ⟨Nat.le_of_ble_eq_true rfl, Nat.le_of_ble_eq_true rfl⟩ kX_t hK hP hD hS hA (posT mk_116 0) (posF mk_116 0) (kC_of mk_116 rfl rfl) (by decide +kernel) rfl rfl rfl hl rfl (Nat.le_of_ble_eq_true rfl) dX11_blank_23 ⟨Nat.le_of_ble_eq_true rfl, Nat.le_of_ble_eq_true rfl⟩ (fun H locs hB hJ hSn => ?_)
  refine hB _ (fun fsh_3 hPD9 hf3_0 hf3_1 => ?_)
  clear hB
  obtain ⟨hPn, hDn⟩ := kJi (m := mk_116) hJ rfl hPD9.1 hPD9.2 (wn := [(oX, .inr (11, [.ref nT, .ref nL, .ref nM, .ref oC, .ref oP, .ref oH, .ref oK, .ref oG, .ref oR, .ref oQ, .ref oW, .int fa])), (oC, .inr (2, [.ref o4, .ref o5])), (o5, .inr (10, [.ref a51, .ref a52, .ref a53, .int lt_2])), (a51, .inl (cI, 256, .inl ft1_2)), (a53, .inl (cI, 512, .inl ft3_2)), (oW, .inr (1, [.ref oC, .ref oK, .ref nw, .ref w1, .ref w2, .ref w3, .ref o7, .ref o8, .ref o9, .ref w4, .ref w5, .ref w6, .ref w7, .int ke, .int tl, .int fsh_3, .int wi, .int ri, .int fm, .int lm]))]) rfl
  clear hP hD hS hJ hPD9
  have hP := hPn
  have hD := hDn
  have hS := hSn
  clear hPn hDn hSn
  refine lv_iconst (v := 1) hx hb dX11_blank_26 (by decide) ?_
  exact kl_z (v := 1) hQQ hx hb hr hlocks hS dX11_blank_27 (rfl) (fun PZ9 kZ9 => kZ9 fsh_3 lt_2 ft1_2 ft3_2 (⟨hP, hD⟩) (hf3_0) (rfl) (hf2_0) (hf2_1) (hf2_2) (hf3_1))

end

/-! 59.a.rows -/
section
set_option maxRecDepth 100000 in
theorem dA117_cX12_span : kDec cX12_span [(0, .aload_n 0, 1), (1, .iconst 0, 1), (2, .putfield 85, 3), (5, .aload_n 0, 1), (6, .iconst (-1), 1), (7, .putfield 55, 3), (10, .iload_n 1, 1), (11, .iconst 4, 1), (12, .if_icmp .lt 59, 3), (71, .iconst (-1), 1), (72, .ireturn, 1), (15, .iload_n 1, 1), (16, .iconst 5, 1), (17, .if_icmp .gt 54, 3), (20, .iload_n 2, 1), (21, .ifCond .lt 50, 3), (24, .iload_n 2, 1), (25, .sipush 255, 3), (28, .if_icmp .gt 43, 3), (31, .iload_n 3, 1), (32, .iconst 1, 1), (33, .if_icmp .lt 38, 3), (36, .iload_n 3, 1), (37, .sipush 256, 3)] = true := by decide +kernel
theorem dX12_span_0 : decode cX12_span 0 = .ok (.aload_n 0, 1) := kDec_at dA117_cX12_span 0 rfl
theorem dX12_span_1 : decode cX12_span 1 = .ok (.iconst 0, 1) := kDec_at dA117_cX12_span 1 rfl
theorem dX12_span_2 : decode cX12_span 2 = .ok (.putfield 85, 3) := kDec_at dA117_cX12_span 2 rfl
theorem dX12_span_5 : decode cX12_span 5 = .ok (.aload_n 0, 1) := kDec_at dA117_cX12_span 3 rfl
theorem dX12_span_6 : decode cX12_span 6 = .ok (.iconst (-1), 1) := kDec_at dA117_cX12_span 4 rfl
theorem dX12_span_7 : decode cX12_span 7 = .ok (.putfield 55, 3) := kDec_at dA117_cX12_span 5 rfl
theorem dX12_span_10 : decode cX12_span 10 = .ok (.iload_n 1, 1) := kDec_at dA117_cX12_span 6 rfl
theorem dX12_span_11 : decode cX12_span 11 = .ok (.iconst 4, 1) := kDec_at dA117_cX12_span 7 rfl
theorem dX12_span_12 : decode cX12_span 12 = .ok (.if_icmp .lt 59, 3) := kDec_at dA117_cX12_span 8 rfl
theorem dX12_span_71 : decode cX12_span 71 = .ok (.iconst (-1), 1) := kDec_at dA117_cX12_span 9 rfl
theorem dX12_span_72 : decode cX12_span 72 = .ok (.ireturn, 1) := kDec_at dA117_cX12_span 10 rfl
theorem dX12_span_15 : decode cX12_span 15 = .ok (.iload_n 1, 1) := kDec_at dA117_cX12_span 11 rfl
theorem dX12_span_16 : decode cX12_span 16 = .ok (.iconst 5, 1) := kDec_at dA117_cX12_span 12 rfl
theorem dX12_span_17 : decode cX12_span 17 = .ok (.if_icmp .gt 54, 3) := kDec_at dA117_cX12_span 13 rfl
theorem dX12_span_20 : decode cX12_span 20 = .ok (.iload_n 2, 1) := kDec_at dA117_cX12_span 14 rfl
theorem dX12_span_21 : decode cX12_span 21 = .ok (.ifCond .lt 50, 3) := kDec_at dA117_cX12_span 15 rfl
theorem dX12_span_24 : decode cX12_span 24 = .ok (.iload_n 2, 1) := kDec_at dA117_cX12_span 16 rfl
theorem dX12_span_25 : decode cX12_span 25 = .ok (.sipush 255, 3) := kDec_at dA117_cX12_span 17 rfl
theorem dX12_span_28 : decode cX12_span 28 = .ok (.if_icmp .gt 43, 3) := kDec_at dA117_cX12_span 18 rfl
theorem dX12_span_31 : decode cX12_span 31 = .ok (.iload_n 3, 1) := kDec_at dA117_cX12_span 19 rfl
theorem dX12_span_32 : decode cX12_span 32 = .ok (.iconst 1, 1) := kDec_at dA117_cX12_span 20 rfl
theorem dX12_span_33 : decode cX12_span 33 = .ok (.if_icmp .lt 38, 3) := kDec_at dA117_cX12_span 21 rfl
theorem dX12_span_36 : decode cX12_span 36 = .ok (.iload_n 3, 1) := kDec_at dA117_cX12_span 22 rfl
theorem dX12_span_37 : decode cX12_span 37 = .ok (.sipush 256, 3) := kDec_at dA117_cX12_span 23 rfl
set_option maxRecDepth 100000 in
theorem dA118_cX12_span : kDec cX12_span [(40, .iload_n 2, 1), (41, .isub, 1), (42, .if_icmp .gt 29, 3), (45, .iload 5, 2), (47, .sipush (-255), 3), (50, .if_icmp .lt 21, 3), (53, .iload 5, 2), (55, .sipush 255, 3), (58, .if_icmp .gt 13, 3), (61, .iload_n 3, 1), (62, .iconst 1, 1), (63, .if_icmp .le 10, 3), (73, .iload_n 1, 1), (74, .iconst 4, 1), (75, .isub, 1), (76, .istore 6, 2), (78, .iload 4, 2), (80, .invokestatic 116, 3), (83, .ifCond .ne 5, 3), (88, .iconst 0, 1), (89, .istore 7, 2), (91, .iload 7, 2), (93, .iload_n 3, 1), (94, .if_icmp .ge 66, 3)] = true := by decide +kernel
theorem dX12_span_40 : decode cX12_span 40 = .ok (.iload_n 2, 1) := kDec_at dA118_cX12_span 0 rfl
theorem dX12_span_41 : decode cX12_span 41 = .ok (.isub, 1) := kDec_at dA118_cX12_span 1 rfl
theorem dX12_span_42 : decode cX12_span 42 = .ok (.if_icmp .gt 29, 3) := kDec_at dA118_cX12_span 2 rfl
theorem dX12_span_45 : decode cX12_span 45 = .ok (.iload 5, 2) := kDec_at dA118_cX12_span 3 rfl
theorem dX12_span_47 : decode cX12_span 47 = .ok (.sipush (-255), 3) := kDec_at dA118_cX12_span 4 rfl
theorem dX12_span_50 : decode cX12_span 50 = .ok (.if_icmp .lt 21, 3) := kDec_at dA118_cX12_span 5 rfl
theorem dX12_span_53 : decode cX12_span 53 = .ok (.iload 5, 2) := kDec_at dA118_cX12_span 6 rfl
theorem dX12_span_55 : decode cX12_span 55 = .ok (.sipush 255, 3) := kDec_at dA118_cX12_span 7 rfl
theorem dX12_span_58 : decode cX12_span 58 = .ok (.if_icmp .gt 13, 3) := kDec_at dA118_cX12_span 8 rfl
theorem dX12_span_61 : decode cX12_span 61 = .ok (.iload_n 3, 1) := kDec_at dA118_cX12_span 9 rfl
theorem dX12_span_62 : decode cX12_span 62 = .ok (.iconst 1, 1) := kDec_at dA118_cX12_span 10 rfl
theorem dX12_span_63 : decode cX12_span 63 = .ok (.if_icmp .le 10, 3) := kDec_at dA118_cX12_span 11 rfl
theorem dX12_span_73 : decode cX12_span 73 = .ok (.iload_n 1, 1) := kDec_at dA118_cX12_span 12 rfl
theorem dX12_span_74 : decode cX12_span 74 = .ok (.iconst 4, 1) := kDec_at dA118_cX12_span 13 rfl
theorem dX12_span_75 : decode cX12_span 75 = .ok (.isub, 1) := kDec_at dA118_cX12_span 14 rfl
theorem dX12_span_76 : decode cX12_span 76 = .ok (.istore 6, 2) := kDec_at dA118_cX12_span 15 rfl
theorem dX12_span_78 : decode cX12_span 78 = .ok (.iload 4, 2) := kDec_at dA118_cX12_span 16 rfl
theorem dX12_span_80 : decode cX12_span 80 = .ok (.invokestatic 116, 3) := kDec_at dA118_cX12_span 17 rfl
theorem dX12_span_83 : decode cX12_span 83 = .ok (.ifCond .ne 5, 3) := kDec_at dA118_cX12_span 18 rfl
theorem dX12_span_88 : decode cX12_span 88 = .ok (.iconst 0, 1) := kDec_at dA118_cX12_span 19 rfl
theorem dX12_span_89 : decode cX12_span 89 = .ok (.istore 7, 2) := kDec_at dA118_cX12_span 20 rfl
theorem dX12_span_91 : decode cX12_span 91 = .ok (.iload 7, 2) := kDec_at dA118_cX12_span 21 rfl
theorem dX12_span_93 : decode cX12_span 93 = .ok (.iload_n 3, 1) := kDec_at dA118_cX12_span 22 rfl
theorem dX12_span_94 : decode cX12_span 94 = .ok (.if_icmp .ge 66, 3) := kDec_at dA118_cX12_span 23 rfl
set_option maxRecDepth 20000 in
theorem ggX12_span_X12_isLetter : GoodIn wsX12_span wsX12_isLetter := goodIn_sub (fun _ h => List.mem_cons_of_mem _ (List.mem_append_right _ (h))) gX12_isLetter_all
set_option maxRecDepth 20000 in
theorem gX12_span_X12_isLetter : GoodIn wsX12_span (va_wsS RX12 116 yX12_isLetter wsX12_isLetter) := goodIn_app (goodIn_r _ [8, 9, 10] rfl (by decide +kernel)) ggX12_span_X12_isLetter
set_option maxRecDepth 100000 in
theorem dA119_cX12_span : kDec cX12_span [(160, .iconst 0, 1), (161, .istore 7, 2), (163, .iload 7, 2), (165, .iload_n 3, 1), (166, .if_icmp .ge 57, 3), (223, .aload_n 0, 1), (224, .getfield 27, 3), (227, .iload 6, 2), (229, .dup2, 1), (230, .iaload, 1), (231, .iload_n 3, 1), (232, .iadd, 1), (233, .iastore, 1), (234, .aload_n 0, 1), (235, .dup, 1), (236, .getfield 148, 3), (239, .iconst 1, 1), (240, .iadd, 1), (241, .putfield 148, 3), (244, .aload_n 0, 1), (245, .getfield 27, 3), (248, .iload 6, 2), (250, .iaload, 1), (251, .ireturn, 1)] = true := by decide +kernel
theorem dX12_span_160 : decode cX12_span 160 = .ok (.iconst 0, 1) := kDec_at dA119_cX12_span 0 rfl
theorem dX12_span_161 : decode cX12_span 161 = .ok (.istore 7, 2) := kDec_at dA119_cX12_span 1 rfl
theorem dX12_span_163 : decode cX12_span 163 = .ok (.iload 7, 2) := kDec_at dA119_cX12_span 2 rfl
theorem dX12_span_165 : decode cX12_span 165 = .ok (.iload_n 3, 1) := kDec_at dA119_cX12_span 3 rfl
theorem dX12_span_166 : decode cX12_span 166 = .ok (.if_icmp .ge 57, 3) := kDec_at dA119_cX12_span 4 rfl
theorem dX12_span_223 : decode cX12_span 223 = .ok (.aload_n 0, 1) := kDec_at dA119_cX12_span 5 rfl
theorem dX12_span_224 : decode cX12_span 224 = .ok (.getfield 27, 3) := kDec_at dA119_cX12_span 6 rfl
theorem dX12_span_227 : decode cX12_span 227 = .ok (.iload 6, 2) := kDec_at dA119_cX12_span 7 rfl
theorem dX12_span_229 : decode cX12_span 229 = .ok (.dup2, 1) := kDec_at dA119_cX12_span 8 rfl
theorem dX12_span_230 : decode cX12_span 230 = .ok (.iaload, 1) := kDec_at dA119_cX12_span 9 rfl
theorem dX12_span_231 : decode cX12_span 231 = .ok (.iload_n 3, 1) := kDec_at dA119_cX12_span 10 rfl
theorem dX12_span_232 : decode cX12_span 232 = .ok (.iadd, 1) := kDec_at dA119_cX12_span 11 rfl
theorem dX12_span_233 : decode cX12_span 233 = .ok (.iastore, 1) := kDec_at dA119_cX12_span 12 rfl
theorem dX12_span_234 : decode cX12_span 234 = .ok (.aload_n 0, 1) := kDec_at dA119_cX12_span 13 rfl
theorem dX12_span_235 : decode cX12_span 235 = .ok (.dup, 1) := kDec_at dA119_cX12_span 14 rfl
theorem dX12_span_236 : decode cX12_span 236 = .ok (.getfield 148, 3) := kDec_at dA119_cX12_span 15 rfl
theorem dX12_span_239 : decode cX12_span 239 = .ok (.iconst 1, 1) := kDec_at dA119_cX12_span 16 rfl
theorem dX12_span_240 : decode cX12_span 240 = .ok (.iadd, 1) := kDec_at dA119_cX12_span 17 rfl
theorem dX12_span_241 : decode cX12_span 241 = .ok (.putfield 148, 3) := kDec_at dA119_cX12_span 18 rfl
theorem dX12_span_244 : decode cX12_span 244 = .ok (.aload_n 0, 1) := kDec_at dA119_cX12_span 19 rfl
theorem dX12_span_245 : decode cX12_span 245 = .ok (.getfield 27, 3) := kDec_at dA119_cX12_span 20 rfl
theorem dX12_span_248 : decode cX12_span 248 = .ok (.iload 6, 2) := kDec_at dA119_cX12_span 21 rfl
theorem dX12_span_250 : decode cX12_span 250 = .ok (.iaload, 1) := kDec_at dA119_cX12_span 22 rfl
theorem dX12_span_251 : decode cX12_span 251 = .ok (.ireturn, 1) := kDec_at dA119_cX12_span 23 rfl
set_option maxRecDepth 100000 in
theorem dA120_cX12_span : kDec cX12_span [(169, .aload_n 0, 1), (170, .getfield 19, 3), (173, .sipush 256, 3), (176, .iload 6, 2), (178, .imul, 1), (179, .iload_n 2, 1), (180, .iadd, 1), (181, .iload 7, 2), (183, .iadd, 1), (184, .iload 4, 2), (186, .iload 7, 2), (188, .iload 5, 2), (190, .imul, 1), (191, .iadd, 1), (192, .iastore, 1), (193, .aload_n 0, 1), (194, .getfield 23, 3), (197, .ldc 88, 2), (199, .iload 6, 2), (201, .imul, 1), (202, .iload 4, 2), (204, .iadd, 1), (205, .iload 7, 2), (207, .iload 5, 2)] = true := by decide +kernel
theorem dX12_span_169 : decode cX12_span 169 = .ok (.aload_n 0, 1) := kDec_at dA120_cX12_span 0 rfl
theorem dX12_span_170 : decode cX12_span 170 = .ok (.getfield 19, 3) := kDec_at dA120_cX12_span 1 rfl
theorem dX12_span_173 : decode cX12_span 173 = .ok (.sipush 256, 3) := kDec_at dA120_cX12_span 2 rfl
theorem dX12_span_176 : decode cX12_span 176 = .ok (.iload 6, 2) := kDec_at dA120_cX12_span 3 rfl
theorem dX12_span_178 : decode cX12_span 178 = .ok (.imul, 1) := kDec_at dA120_cX12_span 4 rfl
theorem dX12_span_179 : decode cX12_span 179 = .ok (.iload_n 2, 1) := kDec_at dA120_cX12_span 5 rfl
theorem dX12_span_180 : decode cX12_span 180 = .ok (.iadd, 1) := kDec_at dA120_cX12_span 6 rfl
theorem dX12_span_181 : decode cX12_span 181 = .ok (.iload 7, 2) := kDec_at dA120_cX12_span 7 rfl
theorem dX12_span_183 : decode cX12_span 183 = .ok (.iadd, 1) := kDec_at dA120_cX12_span 8 rfl
theorem dX12_span_184 : decode cX12_span 184 = .ok (.iload 4, 2) := kDec_at dA120_cX12_span 9 rfl
theorem dX12_span_186 : decode cX12_span 186 = .ok (.iload 7, 2) := kDec_at dA120_cX12_span 10 rfl
theorem dX12_span_188 : decode cX12_span 188 = .ok (.iload 5, 2) := kDec_at dA120_cX12_span 11 rfl
theorem dX12_span_190 : decode cX12_span 190 = .ok (.imul, 1) := kDec_at dA120_cX12_span 12 rfl
theorem dX12_span_191 : decode cX12_span 191 = .ok (.iadd, 1) := kDec_at dA120_cX12_span 13 rfl
theorem dX12_span_192 : decode cX12_span 192 = .ok (.iastore, 1) := kDec_at dA120_cX12_span 14 rfl
theorem dX12_span_193 : decode cX12_span 193 = .ok (.aload_n 0, 1) := kDec_at dA120_cX12_span 15 rfl
theorem dX12_span_194 : decode cX12_span 194 = .ok (.getfield 23, 3) := kDec_at dA120_cX12_span 16 rfl
theorem dX12_span_197 : decode cX12_span 197 = .ok (.ldc 88, 2) := kDec_at dA120_cX12_span 17 rfl
theorem dX12_span_199 : decode cX12_span 199 = .ok (.iload 6, 2) := kDec_at dA120_cX12_span 18 rfl
theorem dX12_span_201 : decode cX12_span 201 = .ok (.imul, 1) := kDec_at dA120_cX12_span 19 rfl
theorem dX12_span_202 : decode cX12_span 202 = .ok (.iload 4, 2) := kDec_at dA120_cX12_span 20 rfl
theorem dX12_span_204 : decode cX12_span 204 = .ok (.iadd, 1) := kDec_at dA120_cX12_span 21 rfl
theorem dX12_span_205 : decode cX12_span 205 = .ok (.iload 7, 2) := kDec_at dA120_cX12_span 22 rfl
theorem dX12_span_207 : decode cX12_span 207 = .ok (.iload 5, 2) := kDec_at dA120_cX12_span 23 rfl
set_option maxRecDepth 100000 in
theorem dA121_cX12_span : kDec cX12_span [(209, .imul, 1), (210, .iadd, 1), (211, .iload_n 2, 1), (212, .iload 7, 2), (214, .iadd, 1), (215, .i2s, 1), (216, .sastore, 1), (217, .iinc 7 1, 3), (220, .goto (-57), 3), (97, .iload 4, 2), (99, .iload 7, 2), (101, .iload 5, 2), (103, .imul, 1), (104, .iadd, 1), (105, .istore 8, 2), (107, .iload 8, 2), (109, .invokestatic 116, 3), (112, .ifCond .eq 40, 3), (152, .iconst (-1), 1), (153, .ireturn, 1), (115, .aload_n 0, 1), (116, .getfield 19, 3), (119, .sipush 256, 3), (122, .iload 6, 2)] = true := by decide +kernel
theorem dX12_span_209 : decode cX12_span 209 = .ok (.imul, 1) := kDec_at dA121_cX12_span 0 rfl
theorem dX12_span_210 : decode cX12_span 210 = .ok (.iadd, 1) := kDec_at dA121_cX12_span 1 rfl
theorem dX12_span_211 : decode cX12_span 211 = .ok (.iload_n 2, 1) := kDec_at dA121_cX12_span 2 rfl
theorem dX12_span_212 : decode cX12_span 212 = .ok (.iload 7, 2) := kDec_at dA121_cX12_span 3 rfl
theorem dX12_span_214 : decode cX12_span 214 = .ok (.iadd, 1) := kDec_at dA121_cX12_span 4 rfl
theorem dX12_span_215 : decode cX12_span 215 = .ok (.i2s, 1) := kDec_at dA121_cX12_span 5 rfl
theorem dX12_span_216 : decode cX12_span 216 = .ok (.sastore, 1) := kDec_at dA121_cX12_span 6 rfl
theorem dX12_span_217 : decode cX12_span 217 = .ok (.iinc 7 1, 3) := kDec_at dA121_cX12_span 7 rfl
theorem dX12_span_220 : decode cX12_span 220 = .ok (.goto (-57), 3) := kDec_at dA121_cX12_span 8 rfl
theorem dX12_span_97 : decode cX12_span 97 = .ok (.iload 4, 2) := kDec_at dA121_cX12_span 9 rfl
theorem dX12_span_99 : decode cX12_span 99 = .ok (.iload 7, 2) := kDec_at dA121_cX12_span 10 rfl
theorem dX12_span_101 : decode cX12_span 101 = .ok (.iload 5, 2) := kDec_at dA121_cX12_span 11 rfl
theorem dX12_span_103 : decode cX12_span 103 = .ok (.imul, 1) := kDec_at dA121_cX12_span 12 rfl
theorem dX12_span_104 : decode cX12_span 104 = .ok (.iadd, 1) := kDec_at dA121_cX12_span 13 rfl
theorem dX12_span_105 : decode cX12_span 105 = .ok (.istore 8, 2) := kDec_at dA121_cX12_span 14 rfl
theorem dX12_span_107 : decode cX12_span 107 = .ok (.iload 8, 2) := kDec_at dA121_cX12_span 15 rfl
theorem dX12_span_109 : decode cX12_span 109 = .ok (.invokestatic 116, 3) := kDec_at dA121_cX12_span 16 rfl
theorem dX12_span_112 : decode cX12_span 112 = .ok (.ifCond .eq 40, 3) := kDec_at dA121_cX12_span 17 rfl
theorem dX12_span_152 : decode cX12_span 152 = .ok (.iconst (-1), 1) := kDec_at dA121_cX12_span 18 rfl
theorem dX12_span_153 : decode cX12_span 153 = .ok (.ireturn, 1) := kDec_at dA121_cX12_span 19 rfl
theorem dX12_span_115 : decode cX12_span 115 = .ok (.aload_n 0, 1) := kDec_at dA121_cX12_span 20 rfl
theorem dX12_span_116 : decode cX12_span 116 = .ok (.getfield 19, 3) := kDec_at dA121_cX12_span 21 rfl
theorem dX12_span_119 : decode cX12_span 119 = .ok (.sipush 256, 3) := kDec_at dA121_cX12_span 22 rfl
theorem dX12_span_122 : decode cX12_span 122 = .ok (.iload 6, 2) := kDec_at dA121_cX12_span 23 rfl
set_option maxRecDepth 100000 in
theorem dA122_cX12_span : kDec cX12_span [(124, .imul, 1), (125, .iload_n 2, 1), (126, .iadd, 1), (127, .iload 7, 2), (129, .iadd, 1), (130, .iaload, 1), (131, .iconst (-1), 1), (132, .if_icmp .ne 20, 3), (135, .aload_n 0, 1), (136, .getfield 23, 3), (139, .ldc 88, 2), (141, .iload 6, 2), (143, .imul, 1), (144, .iload 8, 2), (146, .iadd, 1), (147, .saload, 1), (148, .iconst (-1), 1), (149, .if_icmp .eq 5, 3), (154, .iinc 7 1, 3), (157, .goto (-66), 3), (86, .iconst (-1), 1), (87, .ireturn, 1), (66, .iload 5, 2), (68, .ifCond .ne 5, 3)] = true := by decide +kernel
theorem dX12_span_124 : decode cX12_span 124 = .ok (.imul, 1) := kDec_at dA122_cX12_span 0 rfl
theorem dX12_span_125 : decode cX12_span 125 = .ok (.iload_n 2, 1) := kDec_at dA122_cX12_span 1 rfl
theorem dX12_span_126 : decode cX12_span 126 = .ok (.iadd, 1) := kDec_at dA122_cX12_span 2 rfl
theorem dX12_span_127 : decode cX12_span 127 = .ok (.iload 7, 2) := kDec_at dA122_cX12_span 3 rfl
theorem dX12_span_129 : decode cX12_span 129 = .ok (.iadd, 1) := kDec_at dA122_cX12_span 4 rfl
theorem dX12_span_130 : decode cX12_span 130 = .ok (.iaload, 1) := kDec_at dA122_cX12_span 5 rfl
theorem dX12_span_131 : decode cX12_span 131 = .ok (.iconst (-1), 1) := kDec_at dA122_cX12_span 6 rfl
theorem dX12_span_132 : decode cX12_span 132 = .ok (.if_icmp .ne 20, 3) := kDec_at dA122_cX12_span 7 rfl
theorem dX12_span_135 : decode cX12_span 135 = .ok (.aload_n 0, 1) := kDec_at dA122_cX12_span 8 rfl
theorem dX12_span_136 : decode cX12_span 136 = .ok (.getfield 23, 3) := kDec_at dA122_cX12_span 9 rfl
theorem dX12_span_139 : decode cX12_span 139 = .ok (.ldc 88, 2) := kDec_at dA122_cX12_span 10 rfl
theorem dX12_span_141 : decode cX12_span 141 = .ok (.iload 6, 2) := kDec_at dA122_cX12_span 11 rfl
theorem dX12_span_143 : decode cX12_span 143 = .ok (.imul, 1) := kDec_at dA122_cX12_span 12 rfl
theorem dX12_span_144 : decode cX12_span 144 = .ok (.iload 8, 2) := kDec_at dA122_cX12_span 13 rfl
theorem dX12_span_146 : decode cX12_span 146 = .ok (.iadd, 1) := kDec_at dA122_cX12_span 14 rfl
theorem dX12_span_147 : decode cX12_span 147 = .ok (.saload, 1) := kDec_at dA122_cX12_span 15 rfl
theorem dX12_span_148 : decode cX12_span 148 = .ok (.iconst (-1), 1) := kDec_at dA122_cX12_span 16 rfl
theorem dX12_span_149 : decode cX12_span 149 = .ok (.if_icmp .eq 5, 3) := kDec_at dA122_cX12_span 17 rfl
theorem dX12_span_154 : decode cX12_span 154 = .ok (.iinc 7 1, 3) := kDec_at dA122_cX12_span 18 rfl
theorem dX12_span_157 : decode cX12_span 157 = .ok (.goto (-66), 3) := kDec_at dA122_cX12_span 19 rfl
theorem dX12_span_86 : decode cX12_span 86 = .ok (.iconst (-1), 1) := kDec_at dA122_cX12_span 20 rfl
theorem dX12_span_87 : decode cX12_span 87 = .ok (.ireturn, 1) := kDec_at dA122_cX12_span 21 rfl
theorem dX12_span_66 : decode cX12_span 66 = .ok (.iload 5, 2) := kDec_at dA122_cX12_span 22 rfl
theorem dX12_span_68 : decode cX12_span 68 = .ok (.ifCond .ne 5, 3) := kDec_at dA122_cX12_span 23 rfl
set_option maxRecDepth 100000 in
theorem dA123_cX12_blank : kDec cX12_blank [(0, .aload_n 0, 1), (1, .iconst 0, 1), (2, .putfield 85, 3), (5, .iload_n 1, 1), (6, .iconst 4, 1), (7, .if_icmp .lt 8, 3), (15, .iconst 0, 1), (16, .ireturn, 1), (10, .iload_n 1, 1), (11, .iconst 5, 1), (12, .if_icmp .le 5, 3), (17, .iload_n 1, 1), (18, .iconst 4, 1), (19, .isub, 1), (20, .istore_n 2, 1), (21, .iconst 0, 1), (22, .istore_n 3, 1), (23, .iload_n 3, 1), (24, .sipush 256, 3), (27, .if_icmp .ge 22, 3), (49, .iconst 0, 1), (50, .istore_n 3, 1), (51, .iload_n 3, 1), (52, .ldc 88, 2)] = true := by decide +kernel
theorem dX12_blank_0 : decode cX12_blank 0 = .ok (.aload_n 0, 1) := kDec_at dA123_cX12_blank 0 rfl
theorem dX12_blank_1 : decode cX12_blank 1 = .ok (.iconst 0, 1) := kDec_at dA123_cX12_blank 1 rfl
theorem dX12_blank_2 : decode cX12_blank 2 = .ok (.putfield 85, 3) := kDec_at dA123_cX12_blank 2 rfl
theorem dX12_blank_5 : decode cX12_blank 5 = .ok (.iload_n 1, 1) := kDec_at dA123_cX12_blank 3 rfl
theorem dX12_blank_6 : decode cX12_blank 6 = .ok (.iconst 4, 1) := kDec_at dA123_cX12_blank 4 rfl
theorem dX12_blank_7 : decode cX12_blank 7 = .ok (.if_icmp .lt 8, 3) := kDec_at dA123_cX12_blank 5 rfl
theorem dX12_blank_15 : decode cX12_blank 15 = .ok (.iconst 0, 1) := kDec_at dA123_cX12_blank 6 rfl
theorem dX12_blank_16 : decode cX12_blank 16 = .ok (.ireturn, 1) := kDec_at dA123_cX12_blank 7 rfl
theorem dX12_blank_10 : decode cX12_blank 10 = .ok (.iload_n 1, 1) := kDec_at dA123_cX12_blank 8 rfl
theorem dX12_blank_11 : decode cX12_blank 11 = .ok (.iconst 5, 1) := kDec_at dA123_cX12_blank 9 rfl
theorem dX12_blank_12 : decode cX12_blank 12 = .ok (.if_icmp .le 5, 3) := kDec_at dA123_cX12_blank 10 rfl
theorem dX12_blank_17 : decode cX12_blank 17 = .ok (.iload_n 1, 1) := kDec_at dA123_cX12_blank 11 rfl
theorem dX12_blank_18 : decode cX12_blank 18 = .ok (.iconst 4, 1) := kDec_at dA123_cX12_blank 12 rfl
theorem dX12_blank_19 : decode cX12_blank 19 = .ok (.isub, 1) := kDec_at dA123_cX12_blank 13 rfl
theorem dX12_blank_20 : decode cX12_blank 20 = .ok (.istore_n 2, 1) := kDec_at dA123_cX12_blank 14 rfl
theorem dX12_blank_21 : decode cX12_blank 21 = .ok (.iconst 0, 1) := kDec_at dA123_cX12_blank 15 rfl
theorem dX12_blank_22 : decode cX12_blank 22 = .ok (.istore_n 3, 1) := kDec_at dA123_cX12_blank 16 rfl
theorem dX12_blank_23 : decode cX12_blank 23 = .ok (.iload_n 3, 1) := kDec_at dA123_cX12_blank 17 rfl
theorem dX12_blank_24 : decode cX12_blank 24 = .ok (.sipush 256, 3) := kDec_at dA123_cX12_blank 18 rfl
theorem dX12_blank_27 : decode cX12_blank 27 = .ok (.if_icmp .ge 22, 3) := kDec_at dA123_cX12_blank 19 rfl
theorem dX12_blank_49 : decode cX12_blank 49 = .ok (.iconst 0, 1) := kDec_at dA123_cX12_blank 20 rfl
theorem dX12_blank_50 : decode cX12_blank 50 = .ok (.istore_n 3, 1) := kDec_at dA123_cX12_blank 21 rfl
theorem dX12_blank_51 : decode cX12_blank 51 = .ok (.iload_n 3, 1) := kDec_at dA123_cX12_blank 22 rfl
theorem dX12_blank_52 : decode cX12_blank 52 = .ok (.ldc 88, 2) := kDec_at dA123_cX12_blank 23 rfl
set_option maxRecDepth 100000 in
theorem dA124_cX12_blank : kDec cX12_blank [(54, .if_icmp .ge 21, 3), (75, .aload_n 0, 1), (76, .getfield 27, 3), (79, .iload_n 2, 1), (80, .iconst 0, 1), (81, .iastore, 1), (82, .aload_n 0, 1), (83, .dup, 1), (84, .getfield 148, 3), (87, .iconst 1, 1), (88, .iadd, 1), (89, .putfield 148, 3), (92, .iconst 1, 1), (93, .ireturn, 1), (57, .aload_n 0, 1), (58, .getfield 23, 3), (61, .ldc 88, 2), (63, .iload_n 2, 1), (64, .imul, 1), (65, .iload_n 3, 1), (66, .iadd, 1), (67, .iconst (-1), 1), (68, .sastore, 1), (69, .iinc 3 1, 3)] = true := by decide +kernel
theorem dX12_blank_54 : decode cX12_blank 54 = .ok (.if_icmp .ge 21, 3) := kDec_at dA124_cX12_blank 0 rfl
theorem dX12_blank_75 : decode cX12_blank 75 = .ok (.aload_n 0, 1) := kDec_at dA124_cX12_blank 1 rfl
theorem dX12_blank_76 : decode cX12_blank 76 = .ok (.getfield 27, 3) := kDec_at dA124_cX12_blank 2 rfl
theorem dX12_blank_79 : decode cX12_blank 79 = .ok (.iload_n 2, 1) := kDec_at dA124_cX12_blank 3 rfl
theorem dX12_blank_80 : decode cX12_blank 80 = .ok (.iconst 0, 1) := kDec_at dA124_cX12_blank 4 rfl
theorem dX12_blank_81 : decode cX12_blank 81 = .ok (.iastore, 1) := kDec_at dA124_cX12_blank 5 rfl
theorem dX12_blank_82 : decode cX12_blank 82 = .ok (.aload_n 0, 1) := kDec_at dA124_cX12_blank 6 rfl
theorem dX12_blank_83 : decode cX12_blank 83 = .ok (.dup, 1) := kDec_at dA124_cX12_blank 7 rfl
theorem dX12_blank_84 : decode cX12_blank 84 = .ok (.getfield 148, 3) := kDec_at dA124_cX12_blank 8 rfl
theorem dX12_blank_87 : decode cX12_blank 87 = .ok (.iconst 1, 1) := kDec_at dA124_cX12_blank 9 rfl
theorem dX12_blank_88 : decode cX12_blank 88 = .ok (.iadd, 1) := kDec_at dA124_cX12_blank 10 rfl
theorem dX12_blank_89 : decode cX12_blank 89 = .ok (.putfield 148, 3) := kDec_at dA124_cX12_blank 11 rfl
theorem dX12_blank_92 : decode cX12_blank 92 = .ok (.iconst 1, 1) := kDec_at dA124_cX12_blank 12 rfl
theorem dX12_blank_93 : decode cX12_blank 93 = .ok (.ireturn, 1) := kDec_at dA124_cX12_blank 13 rfl
theorem dX12_blank_57 : decode cX12_blank 57 = .ok (.aload_n 0, 1) := kDec_at dA124_cX12_blank 14 rfl
theorem dX12_blank_58 : decode cX12_blank 58 = .ok (.getfield 23, 3) := kDec_at dA124_cX12_blank 15 rfl
theorem dX12_blank_61 : decode cX12_blank 61 = .ok (.ldc 88, 2) := kDec_at dA124_cX12_blank 16 rfl
theorem dX12_blank_63 : decode cX12_blank 63 = .ok (.iload_n 2, 1) := kDec_at dA124_cX12_blank 17 rfl
theorem dX12_blank_64 : decode cX12_blank 64 = .ok (.imul, 1) := kDec_at dA124_cX12_blank 18 rfl
theorem dX12_blank_65 : decode cX12_blank 65 = .ok (.iload_n 3, 1) := kDec_at dA124_cX12_blank 19 rfl
theorem dX12_blank_66 : decode cX12_blank 66 = .ok (.iadd, 1) := kDec_at dA124_cX12_blank 20 rfl
theorem dX12_blank_67 : decode cX12_blank 67 = .ok (.iconst (-1), 1) := kDec_at dA124_cX12_blank 21 rfl
theorem dX12_blank_68 : decode cX12_blank 68 = .ok (.sastore, 1) := kDec_at dA124_cX12_blank 22 rfl
theorem dX12_blank_69 : decode cX12_blank 69 = .ok (.iinc 3 1, 3) := kDec_at dA124_cX12_blank 23 rfl
set_option maxRecDepth 100000 in
theorem dA125_cX12_blank : kDec cX12_blank [(72, .goto (-21), 3), (30, .aload_n 0, 1), (31, .getfield 19, 3), (34, .sipush 256, 3), (37, .iload_n 2, 1), (38, .imul, 1), (39, .iload_n 3, 1), (40, .iadd, 1), (41, .iconst (-1), 1), (42, .iastore, 1), (43, .iinc 3 1, 3), (46, .goto (-23), 3)] = true := by decide +kernel
theorem dX12_blank_72 : decode cX12_blank 72 = .ok (.goto (-21), 3) := kDec_at dA125_cX12_blank 0 rfl
theorem dX12_blank_30 : decode cX12_blank 30 = .ok (.aload_n 0, 1) := kDec_at dA125_cX12_blank 1 rfl
theorem dX12_blank_31 : decode cX12_blank 31 = .ok (.getfield 19, 3) := kDec_at dA125_cX12_blank 2 rfl
theorem dX12_blank_34 : decode cX12_blank 34 = .ok (.sipush 256, 3) := kDec_at dA125_cX12_blank 3 rfl
theorem dX12_blank_37 : decode cX12_blank 37 = .ok (.iload_n 2, 1) := kDec_at dA125_cX12_blank 4 rfl
theorem dX12_blank_38 : decode cX12_blank 38 = .ok (.imul, 1) := kDec_at dA125_cX12_blank 5 rfl
theorem dX12_blank_39 : decode cX12_blank 39 = .ok (.iload_n 3, 1) := kDec_at dA125_cX12_blank 6 rfl
theorem dX12_blank_40 : decode cX12_blank 40 = .ok (.iadd, 1) := kDec_at dA125_cX12_blank 7 rfl
theorem dX12_blank_41 : decode cX12_blank 41 = .ok (.iconst (-1), 1) := kDec_at dA125_cX12_blank 8 rfl
theorem dX12_blank_42 : decode cX12_blank 42 = .ok (.iastore, 1) := kDec_at dA125_cX12_blank 9 rfl
theorem dX12_blank_43 : decode cX12_blank 43 = .ok (.iinc 3 1, 3) := kDec_at dA125_cX12_blank 10 rfl
theorem dX12_blank_46 : decode cX12_blank 46 = .ok (.goto (-23), 3) := kDec_at dA125_cX12_blank 11 rfl
set_option maxRecDepth 100000 in
theorem dA126_cX2_letterAlone : kDec cX2_letterAlone [(0, .iload_n 1, 1), (1, .tableswitch 65 0 3 #[31, 44, 31, 46], 31), (32, .iload_n 2, 1), (33, .sipush 128, 3), (36, .if_icmp .ge 7, 3), (43, .iconst (-1), 1), (44, .ireturn, 1), (39, .iload_n 2, 1), (40, .goto 4, 3), (45, .iload_n 2, 1), (46, .ireturn, 1), (47, .iload_n 2, 1), (48, .sipush 128, 3), (51, .if_icmp .ge 13, 3), (64, .iconst (-1), 1), (65, .ireturn, 1), (54, .iload_n 2, 1), (55, .bipush 38, 2), (57, .if_icmp .eq 7, 3), (60, .iload_n 2, 1), (61, .goto 4, 3), (66, .aload_n 0, 1), (67, .iload_n 1, 1), (68, .invokevirtual 21, 3)] = true := by decide +kernel
theorem dX2_letterAlone_0 : decode cX2_letterAlone 0 = .ok (.iload_n 1, 1) := kDec_at dA126_cX2_letterAlone 0 rfl
theorem dX2_letterAlone_1 : decode cX2_letterAlone 1 = .ok (.tableswitch 65 0 3 #[31, 44, 31, 46], 31) := kDec_at dA126_cX2_letterAlone 1 rfl
theorem dX2_letterAlone_32 : decode cX2_letterAlone 32 = .ok (.iload_n 2, 1) := kDec_at dA126_cX2_letterAlone 2 rfl
theorem dX2_letterAlone_33 : decode cX2_letterAlone 33 = .ok (.sipush 128, 3) := kDec_at dA126_cX2_letterAlone 3 rfl
theorem dX2_letterAlone_36 : decode cX2_letterAlone 36 = .ok (.if_icmp .ge 7, 3) := kDec_at dA126_cX2_letterAlone 4 rfl
theorem dX2_letterAlone_43 : decode cX2_letterAlone 43 = .ok (.iconst (-1), 1) := kDec_at dA126_cX2_letterAlone 5 rfl
theorem dX2_letterAlone_44 : decode cX2_letterAlone 44 = .ok (.ireturn, 1) := kDec_at dA126_cX2_letterAlone 6 rfl
theorem dX2_letterAlone_39 : decode cX2_letterAlone 39 = .ok (.iload_n 2, 1) := kDec_at dA126_cX2_letterAlone 7 rfl
theorem dX2_letterAlone_40 : decode cX2_letterAlone 40 = .ok (.goto 4, 3) := kDec_at dA126_cX2_letterAlone 8 rfl
theorem dX2_letterAlone_45 : decode cX2_letterAlone 45 = .ok (.iload_n 2, 1) := kDec_at dA126_cX2_letterAlone 9 rfl
theorem dX2_letterAlone_46 : decode cX2_letterAlone 46 = .ok (.ireturn, 1) := kDec_at dA126_cX2_letterAlone 10 rfl
theorem dX2_letterAlone_47 : decode cX2_letterAlone 47 = .ok (.iload_n 2, 1) := kDec_at dA126_cX2_letterAlone 11 rfl
theorem dX2_letterAlone_48 : decode cX2_letterAlone 48 = .ok (.sipush 128, 3) := kDec_at dA126_cX2_letterAlone 12 rfl
theorem dX2_letterAlone_51 : decode cX2_letterAlone 51 = .ok (.if_icmp .ge 13, 3) := kDec_at dA126_cX2_letterAlone 13 rfl
theorem dX2_letterAlone_64 : decode cX2_letterAlone 64 = .ok (.iconst (-1), 1) := kDec_at dA126_cX2_letterAlone 14 rfl
theorem dX2_letterAlone_65 : decode cX2_letterAlone 65 = .ok (.ireturn, 1) := kDec_at dA126_cX2_letterAlone 15 rfl
theorem dX2_letterAlone_54 : decode cX2_letterAlone 54 = .ok (.iload_n 2, 1) := kDec_at dA126_cX2_letterAlone 16 rfl
theorem dX2_letterAlone_55 : decode cX2_letterAlone 55 = .ok (.bipush 38, 2) := kDec_at dA126_cX2_letterAlone 17 rfl
theorem dX2_letterAlone_57 : decode cX2_letterAlone 57 = .ok (.if_icmp .eq 7, 3) := kDec_at dA126_cX2_letterAlone 18 rfl
theorem dX2_letterAlone_60 : decode cX2_letterAlone 60 = .ok (.iload_n 2, 1) := kDec_at dA126_cX2_letterAlone 19 rfl
theorem dX2_letterAlone_61 : decode cX2_letterAlone 61 = .ok (.goto 4, 3) := kDec_at dA126_cX2_letterAlone 20 rfl
theorem dX2_letterAlone_66 : decode cX2_letterAlone 66 = .ok (.aload_n 0, 1) := kDec_at dA126_cX2_letterAlone 21 rfl
theorem dX2_letterAlone_67 : decode cX2_letterAlone 67 = .ok (.iload_n 1, 1) := kDec_at dA126_cX2_letterAlone 22 rfl
theorem dX2_letterAlone_68 : decode cX2_letterAlone 68 = .ok (.invokevirtual 21, 3) := kDec_at dA126_cX2_letterAlone 23 rfl
set_option maxRecDepth 20000 in
theorem ggX2_letterAlone_X2_toldCode : GoodIn wsX2_letterAlone wsX2_toldCode := goodIn_sub (fun _ h => List.mem_cons_of_mem _ (List.mem_append_left _ (List.mem_append_right _ (h)))) gX2_toldCode_all
set_option maxRecDepth 20000 in
theorem gX2_letterAlone_X2_toldCode : GoodIn wsX2_letterAlone (wsV RX2 21 RX2 yX2_toldCode wsX2_toldCode) := goodIn_app (goodIn_r _ [1, 2, 3, 4] rfl (by decide +kernel)) ggX2_letterAlone_X2_toldCode
set_option maxRecDepth 100000 in
theorem dA127_cX2_letterAlone : kDec cX2_letterAlone [(71, .astore_n 3, 1), (72, .aload_n 3, 1), (73, .ifnonnull 7, 3), (80, .aload_n 3, 1), (81, .iload_n 2, 1), (82, .invokevirtual 29, 3), (85, .ireturn, 1), (76, .iconst (-1), 1), (77, .goto 8, 3)] = true := by decide +kernel
theorem dX2_letterAlone_71 : decode cX2_letterAlone 71 = .ok (.astore_n 3, 1) := kDec_at dA127_cX2_letterAlone 0 rfl
theorem dX2_letterAlone_72 : decode cX2_letterAlone 72 = .ok (.aload_n 3, 1) := kDec_at dA127_cX2_letterAlone 1 rfl
theorem dX2_letterAlone_73 : decode cX2_letterAlone 73 = .ok (.ifnonnull 7, 3) := kDec_at dA127_cX2_letterAlone 2 rfl
theorem dX2_letterAlone_80 : decode cX2_letterAlone 80 = .ok (.aload_n 3, 1) := kDec_at dA127_cX2_letterAlone 3 rfl
theorem dX2_letterAlone_81 : decode cX2_letterAlone 81 = .ok (.iload_n 2, 1) := kDec_at dA127_cX2_letterAlone 4 rfl
theorem dX2_letterAlone_82 : decode cX2_letterAlone 82 = .ok (.invokevirtual 29, 3) := kDec_at dA127_cX2_letterAlone 5 rfl
theorem dX2_letterAlone_85 : decode cX2_letterAlone 85 = .ok (.ireturn, 1) := kDec_at dA127_cX2_letterAlone 6 rfl
theorem dX2_letterAlone_76 : decode cX2_letterAlone 76 = .ok (.iconst (-1), 1) := kDec_at dA127_cX2_letterAlone 7 rfl
theorem dX2_letterAlone_77 : decode cX2_letterAlone 77 = .ok (.goto 8, 3) := kDec_at dA127_cX2_letterAlone 8 rfl
set_option maxRecDepth 20000 in
theorem ggX2_letterAlone_X10_letterFor : GoodIn wsX2_letterAlone wsX10_letterFor := goodIn_sub (fun _ h => List.mem_cons_of_mem _ (List.mem_append_right _ (h))) gX10_letterFor_all
set_option maxRecDepth 20000 in
theorem gX2_letterAlone_X10_letterFor : GoodIn wsX2_letterAlone (wsV RX2 29 RX10 yX10_letterFor wsX10_letterFor) := goodIn_app (goodIn_r _ [5, 6, 7, 8] rfl (by decide +kernel)) ggX2_letterAlone_X10_letterFor
set_option maxRecDepth 100000 in
theorem dA128_cX2_isWritten : kDec cX2_isWritten [(0, .iload_n 1, 1), (1, .lookupswitch 67 #[(2, 27), (3, 54)], 27), (28, .iload_n 2, 1), (29, .sipush 192, 3), (32, .if_icmp .lt 17, 3), (49, .iconst 1, 1), (50, .goto 4, 3), (54, .ireturn, 1), (35, .iload_n 2, 1), (36, .sipush 193, 3), (39, .if_icmp .le 14, 3), (53, .iconst 0, 1), (42, .iload_n 2, 1), (43, .sipush 240, 3), (46, .if_icmp .ge 7, 3), (55, .iload_n 2, 1), (56, .sipush 128, 3), (59, .if_icmp .ge 7, 3), (66, .iconst 0, 1), (67, .ireturn, 1), (62, .iconst 1, 1), (63, .goto 4, 3), (68, .aload_n 0, 1), (69, .iload_n 1, 1)] = true := by decide +kernel
theorem dX2_isWritten_0 : decode cX2_isWritten 0 = .ok (.iload_n 1, 1) := kDec_at dA128_cX2_isWritten 0 rfl
theorem dX2_isWritten_1 : decode cX2_isWritten 1 = .ok (.lookupswitch 67 #[(2, 27), (3, 54)], 27) := kDec_at dA128_cX2_isWritten 1 rfl
theorem dX2_isWritten_28 : decode cX2_isWritten 28 = .ok (.iload_n 2, 1) := kDec_at dA128_cX2_isWritten 2 rfl
theorem dX2_isWritten_29 : decode cX2_isWritten 29 = .ok (.sipush 192, 3) := kDec_at dA128_cX2_isWritten 3 rfl
theorem dX2_isWritten_32 : decode cX2_isWritten 32 = .ok (.if_icmp .lt 17, 3) := kDec_at dA128_cX2_isWritten 4 rfl
theorem dX2_isWritten_49 : decode cX2_isWritten 49 = .ok (.iconst 1, 1) := kDec_at dA128_cX2_isWritten 5 rfl
theorem dX2_isWritten_50 : decode cX2_isWritten 50 = .ok (.goto 4, 3) := kDec_at dA128_cX2_isWritten 6 rfl
theorem dX2_isWritten_54 : decode cX2_isWritten 54 = .ok (.ireturn, 1) := kDec_at dA128_cX2_isWritten 7 rfl
theorem dX2_isWritten_35 : decode cX2_isWritten 35 = .ok (.iload_n 2, 1) := kDec_at dA128_cX2_isWritten 8 rfl
theorem dX2_isWritten_36 : decode cX2_isWritten 36 = .ok (.sipush 193, 3) := kDec_at dA128_cX2_isWritten 9 rfl
theorem dX2_isWritten_39 : decode cX2_isWritten 39 = .ok (.if_icmp .le 14, 3) := kDec_at dA128_cX2_isWritten 10 rfl
theorem dX2_isWritten_53 : decode cX2_isWritten 53 = .ok (.iconst 0, 1) := kDec_at dA128_cX2_isWritten 11 rfl
theorem dX2_isWritten_42 : decode cX2_isWritten 42 = .ok (.iload_n 2, 1) := kDec_at dA128_cX2_isWritten 12 rfl
theorem dX2_isWritten_43 : decode cX2_isWritten 43 = .ok (.sipush 240, 3) := kDec_at dA128_cX2_isWritten 13 rfl
theorem dX2_isWritten_46 : decode cX2_isWritten 46 = .ok (.if_icmp .ge 7, 3) := kDec_at dA128_cX2_isWritten 14 rfl
theorem dX2_isWritten_55 : decode cX2_isWritten 55 = .ok (.iload_n 2, 1) := kDec_at dA128_cX2_isWritten 15 rfl
theorem dX2_isWritten_56 : decode cX2_isWritten 56 = .ok (.sipush 128, 3) := kDec_at dA128_cX2_isWritten 16 rfl
theorem dX2_isWritten_59 : decode cX2_isWritten 59 = .ok (.if_icmp .ge 7, 3) := kDec_at dA128_cX2_isWritten 17 rfl
theorem dX2_isWritten_66 : decode cX2_isWritten 66 = .ok (.iconst 0, 1) := kDec_at dA128_cX2_isWritten 18 rfl
theorem dX2_isWritten_67 : decode cX2_isWritten 67 = .ok (.ireturn, 1) := kDec_at dA128_cX2_isWritten 19 rfl
theorem dX2_isWritten_62 : decode cX2_isWritten 62 = .ok (.iconst 1, 1) := kDec_at dA128_cX2_isWritten 20 rfl
theorem dX2_isWritten_63 : decode cX2_isWritten 63 = .ok (.goto 4, 3) := kDec_at dA128_cX2_isWritten 21 rfl
theorem dX2_isWritten_68 : decode cX2_isWritten 68 = .ok (.aload_n 0, 1) := kDec_at dA128_cX2_isWritten 22 rfl
theorem dX2_isWritten_69 : decode cX2_isWritten 69 = .ok (.iload_n 1, 1) := kDec_at dA128_cX2_isWritten 23 rfl
set_option maxRecDepth 100000 in
theorem dA129_cX2_isWritten : kDec cX2_isWritten [(70, .iload_n 2, 1), (71, .invokevirtual 38, 3), (74, .iconst (-1), 1), (75, .if_icmp .eq 7, 3), (82, .iconst 0, 1), (83, .ireturn, 1), (78, .iconst 1, 1), (79, .goto 4, 3)] = true := by decide +kernel
theorem dX2_isWritten_70 : decode cX2_isWritten 70 = .ok (.iload_n 2, 1) := kDec_at dA129_cX2_isWritten 0 rfl
theorem dX2_isWritten_71 : decode cX2_isWritten 71 = .ok (.invokevirtual 38, 3) := kDec_at dA129_cX2_isWritten 1 rfl
theorem dX2_isWritten_74 : decode cX2_isWritten 74 = .ok (.iconst (-1), 1) := kDec_at dA129_cX2_isWritten 2 rfl
theorem dX2_isWritten_75 : decode cX2_isWritten 75 = .ok (.if_icmp .eq 7, 3) := kDec_at dA129_cX2_isWritten 3 rfl
theorem dX2_isWritten_82 : decode cX2_isWritten 82 = .ok (.iconst 0, 1) := kDec_at dA129_cX2_isWritten 4 rfl
theorem dX2_isWritten_83 : decode cX2_isWritten 83 = .ok (.ireturn, 1) := kDec_at dA129_cX2_isWritten 5 rfl
theorem dX2_isWritten_78 : decode cX2_isWritten 78 = .ok (.iconst 1, 1) := kDec_at dA129_cX2_isWritten 6 rfl
theorem dX2_isWritten_79 : decode cX2_isWritten 79 = .ok (.goto 4, 3) := kDec_at dA129_cX2_isWritten 7 rfl
set_option maxRecDepth 20000 in
theorem gX2_letterAlone_all : wsX2_letterAlone.all goodWord = true := by
  unfold wsX2_letterAlone
  exact good_c (by decide +kernel) (good_a (good_a (good_a (good_a ((by decide +kernel)) gX2_clsall) gX10_clsall) gX2_toldCode_all) gX10_letterFor_all)
set_option maxRecDepth 20000 in
theorem ggX2_isWritten_X2_letterAlone : GoodIn wsX2_isWritten wsX2_letterAlone := goodIn_sub (fun _ h => List.mem_cons_of_mem _ (List.mem_append_right _ (h))) gX2_letterAlone_all
set_option maxRecDepth 20000 in
theorem gX2_isWritten_X2_letterAlone : GoodIn wsX2_isWritten (wsV RX2 38 RX2 yX2_letterAlone wsX2_letterAlone) := goodIn_app (goodIn_r _ [1, 2, 3, 4] rfl (by decide +kernel)) ggX2_isWritten_X2_letterAlone
set_option maxRecDepth 100000 in
theorem dA130_cX2_neverLost : kDec cX2_neverLost [(0, .iload_n 1, 1), (1, .iload_n 2, 1), (2, .if_icmp .ne 5, 3), (7, .iconst 0, 1), (8, .istore_n 3, 1), (9, .iload_n 3, 1), (10, .sipush 256, 3), (13, .if_icmp .ge 30, 3), (43, .iconst 1, 1), (44, .ireturn, 1), (16, .aload_n 0, 1), (17, .iload_n 1, 1), (18, .iload_n 3, 1), (19, .invokevirtual 72, 3), (22, .ifCond .eq 15, 3), (37, .iinc 3 1, 3), (40, .goto (-31), 3), (25, .aload_n 0, 1), (26, .iload_n 2, 1), (27, .iload_n 3, 1), (28, .invokevirtual 38, 3), (31, .iconst (-1), 1), (32, .if_icmp .ne 5, 3), (35, .iconst 0, 1)] = true := by decide +kernel
theorem dX2_neverLost_0 : decode cX2_neverLost 0 = .ok (.iload_n 1, 1) := kDec_at dA130_cX2_neverLost 0 rfl
theorem dX2_neverLost_1 : decode cX2_neverLost 1 = .ok (.iload_n 2, 1) := kDec_at dA130_cX2_neverLost 1 rfl
theorem dX2_neverLost_2 : decode cX2_neverLost 2 = .ok (.if_icmp .ne 5, 3) := kDec_at dA130_cX2_neverLost 2 rfl
theorem dX2_neverLost_7 : decode cX2_neverLost 7 = .ok (.iconst 0, 1) := kDec_at dA130_cX2_neverLost 3 rfl
theorem dX2_neverLost_8 : decode cX2_neverLost 8 = .ok (.istore_n 3, 1) := kDec_at dA130_cX2_neverLost 4 rfl
theorem dX2_neverLost_9 : decode cX2_neverLost 9 = .ok (.iload_n 3, 1) := kDec_at dA130_cX2_neverLost 5 rfl
theorem dX2_neverLost_10 : decode cX2_neverLost 10 = .ok (.sipush 256, 3) := kDec_at dA130_cX2_neverLost 6 rfl
theorem dX2_neverLost_13 : decode cX2_neverLost 13 = .ok (.if_icmp .ge 30, 3) := kDec_at dA130_cX2_neverLost 7 rfl
theorem dX2_neverLost_43 : decode cX2_neverLost 43 = .ok (.iconst 1, 1) := kDec_at dA130_cX2_neverLost 8 rfl
theorem dX2_neverLost_44 : decode cX2_neverLost 44 = .ok (.ireturn, 1) := kDec_at dA130_cX2_neverLost 9 rfl
theorem dX2_neverLost_16 : decode cX2_neverLost 16 = .ok (.aload_n 0, 1) := kDec_at dA130_cX2_neverLost 10 rfl
theorem dX2_neverLost_17 : decode cX2_neverLost 17 = .ok (.iload_n 1, 1) := kDec_at dA130_cX2_neverLost 11 rfl
theorem dX2_neverLost_18 : decode cX2_neverLost 18 = .ok (.iload_n 3, 1) := kDec_at dA130_cX2_neverLost 12 rfl
theorem dX2_neverLost_19 : decode cX2_neverLost 19 = .ok (.invokevirtual 72, 3) := kDec_at dA130_cX2_neverLost 13 rfl
theorem dX2_neverLost_22 : decode cX2_neverLost 22 = .ok (.ifCond .eq 15, 3) := kDec_at dA130_cX2_neverLost 14 rfl
theorem dX2_neverLost_37 : decode cX2_neverLost 37 = .ok (.iinc 3 1, 3) := kDec_at dA130_cX2_neverLost 15 rfl
theorem dX2_neverLost_40 : decode cX2_neverLost 40 = .ok (.goto (-31), 3) := kDec_at dA130_cX2_neverLost 16 rfl
theorem dX2_neverLost_25 : decode cX2_neverLost 25 = .ok (.aload_n 0, 1) := kDec_at dA130_cX2_neverLost 17 rfl
theorem dX2_neverLost_26 : decode cX2_neverLost 26 = .ok (.iload_n 2, 1) := kDec_at dA130_cX2_neverLost 18 rfl
theorem dX2_neverLost_27 : decode cX2_neverLost 27 = .ok (.iload_n 3, 1) := kDec_at dA130_cX2_neverLost 19 rfl
theorem dX2_neverLost_28 : decode cX2_neverLost 28 = .ok (.invokevirtual 38, 3) := kDec_at dA130_cX2_neverLost 20 rfl
theorem dX2_neverLost_31 : decode cX2_neverLost 31 = .ok (.iconst (-1), 1) := kDec_at dA130_cX2_neverLost 21 rfl
theorem dX2_neverLost_32 : decode cX2_neverLost 32 = .ok (.if_icmp .ne 5, 3) := kDec_at dA130_cX2_neverLost 22 rfl
theorem dX2_neverLost_35 : decode cX2_neverLost 35 = .ok (.iconst 0, 1) := kDec_at dA130_cX2_neverLost 23 rfl
set_option maxRecDepth 20000 in
theorem gX2_isWritten_all : wsX2_isWritten.all goodWord = true := by
  unfold wsX2_isWritten
  exact good_c (by decide +kernel) (good_a (good_a (good_a ((by decide +kernel)) gX2_clsall) gX10_clsall) gX2_letterAlone_all)
set_option maxRecDepth 20000 in
theorem ggX2_neverLost_X2_isWritten : GoodIn wsX2_neverLost wsX2_isWritten := goodIn_sub (fun _ h => List.mem_cons_of_mem _ (List.mem_append_left _ (List.mem_append_right _ (h)))) gX2_isWritten_all
set_option maxRecDepth 20000 in
theorem gX2_neverLost_X2_isWritten : GoodIn wsX2_neverLost (wsV RX2 72 RX2 yX2_isWritten wsX2_isWritten) := goodIn_app (goodIn_r _ [1, 2, 3, 4] rfl (by decide +kernel)) ggX2_neverLost_X2_isWritten
set_option maxRecDepth 20000 in
theorem ggX2_neverLost_X2_letterAlone : GoodIn wsX2_neverLost wsX2_letterAlone := goodIn_sub (fun _ h => List.mem_cons_of_mem _ (List.mem_append_right _ (h))) gX2_letterAlone_all
set_option maxRecDepth 20000 in
theorem gX2_neverLost_X2_letterAlone : GoodIn wsX2_neverLost (wsV RX2 38 RX2 yX2_letterAlone wsX2_letterAlone) := goodIn_app (goodIn_r _ [5, 6, 7, 4] rfl (by decide +kernel)) ggX2_neverLost_X2_letterAlone
set_option maxRecDepth 100000 in
theorem dA131_cX2_neverLost : kDec cX2_neverLost [(36, .ireturn, 1), (5, .iconst 1, 1), (6, .ireturn, 1)] = true := by decide +kernel
theorem dX2_neverLost_36 : decode cX2_neverLost 36 = .ok (.ireturn, 1) := kDec_at dA131_cX2_neverLost 0 rfl
theorem dX2_neverLost_5 : decode cX2_neverLost 5 = .ok (.iconst 1, 1) := kDec_at dA131_cX2_neverLost 1 rfl
theorem dX2_neverLost_6 : decode cX2_neverLost 6 = .ok (.ireturn, 1) := kDec_at dA131_cX2_neverLost 2 rfl
set_option maxRecDepth 100000 in
theorem dA132_cX11_safe : kDec cX11_safe [(0, .aload_n 0, 1), (1, .iconst (-1), 1), (2, .putfield 90, 3), (5, .iload_n 1, 1), (6, .invokestatic 117, 3), (9, .ifCond .eq 10, 3), (19, .iconst (-1), 1), (20, .ireturn, 1), (12, .iload_n 2, 1), (13, .invokestatic 117, 3), (16, .ifCond .ne 5, 3), (21, .aload_n 0, 1), (22, .getfield 40, 3), (25, .iload_n 1, 1), (26, .iload_n 2, 1), (27, .invokevirtual 185, 3), (30, .ifCond .eq 7, 3), (37, .iconst 0, 1), (38, .ireturn, 1), (33, .iconst 1, 1), (34, .goto 4, 3)] = true := by decide +kernel
theorem dX11_safe_0 : decode cX11_safe 0 = .ok (.aload_n 0, 1) := kDec_at dA132_cX11_safe 0 rfl
theorem dX11_safe_1 : decode cX11_safe 1 = .ok (.iconst (-1), 1) := kDec_at dA132_cX11_safe 1 rfl
theorem dX11_safe_2 : decode cX11_safe 2 = .ok (.putfield 90, 3) := kDec_at dA132_cX11_safe 2 rfl
theorem dX11_safe_5 : decode cX11_safe 5 = .ok (.iload_n 1, 1) := kDec_at dA132_cX11_safe 3 rfl
theorem dX11_safe_6 : decode cX11_safe 6 = .ok (.invokestatic 117, 3) := kDec_at dA132_cX11_safe 4 rfl
theorem dX11_safe_9 : decode cX11_safe 9 = .ok (.ifCond .eq 10, 3) := kDec_at dA132_cX11_safe 5 rfl
theorem dX11_safe_19 : decode cX11_safe 19 = .ok (.iconst (-1), 1) := kDec_at dA132_cX11_safe 6 rfl
theorem dX11_safe_20 : decode cX11_safe 20 = .ok (.ireturn, 1) := kDec_at dA132_cX11_safe 7 rfl
theorem dX11_safe_12 : decode cX11_safe 12 = .ok (.iload_n 2, 1) := kDec_at dA132_cX11_safe 8 rfl
theorem dX11_safe_13 : decode cX11_safe 13 = .ok (.invokestatic 117, 3) := kDec_at dA132_cX11_safe 9 rfl
theorem dX11_safe_16 : decode cX11_safe 16 = .ok (.ifCond .ne 5, 3) := kDec_at dA132_cX11_safe 10 rfl
theorem dX11_safe_21 : decode cX11_safe 21 = .ok (.aload_n 0, 1) := kDec_at dA132_cX11_safe 11 rfl
theorem dX11_safe_22 : decode cX11_safe 22 = .ok (.getfield 40, 3) := kDec_at dA132_cX11_safe 12 rfl
theorem dX11_safe_25 : decode cX11_safe 25 = .ok (.iload_n 1, 1) := kDec_at dA132_cX11_safe 13 rfl
theorem dX11_safe_26 : decode cX11_safe 26 = .ok (.iload_n 2, 1) := kDec_at dA132_cX11_safe 14 rfl
theorem dX11_safe_27 : decode cX11_safe 27 = .ok (.invokevirtual 185, 3) := kDec_at dA132_cX11_safe 15 rfl
theorem dX11_safe_30 : decode cX11_safe 30 = .ok (.ifCond .eq 7, 3) := kDec_at dA132_cX11_safe 16 rfl
theorem dX11_safe_37 : decode cX11_safe 37 = .ok (.iconst 0, 1) := kDec_at dA132_cX11_safe 17 rfl
theorem dX11_safe_38 : decode cX11_safe 38 = .ok (.ireturn, 1) := kDec_at dA132_cX11_safe 18 rfl
theorem dX11_safe_33 : decode cX11_safe 33 = .ok (.iconst 1, 1) := kDec_at dA132_cX11_safe 19 rfl
theorem dX11_safe_34 : decode cX11_safe 34 = .ok (.goto 4, 3) := kDec_at dA132_cX11_safe 20 rfl
set_option maxRecDepth 20000 in
theorem ggX11_safe_X2_known : GoodIn wsX11_safe wsX2_known := goodIn_sub (fun _ h => List.mem_cons_of_mem _ (List.mem_append_left _ (List.mem_append_right _ (h)))) gX2_known_all
set_option maxRecDepth 20000 in
theorem gX11_safe_X2_known : GoodIn wsX11_safe (va_wsS RX11 117 yX2_known wsX2_known) := goodIn_app (goodIn_r _ [3, 4, 5] rfl (by decide +kernel)) ggX11_safe_X2_known
set_option maxRecDepth 20000 in
theorem gX2_neverLost_all : wsX2_neverLost.all goodWord = true := by
  unfold wsX2_neverLost
  exact good_c (by decide +kernel) (good_a (good_a (good_a (good_a ((by decide +kernel)) gX2_clsall) gX10_clsall) gX2_isWritten_all) gX2_letterAlone_all)
set_option maxRecDepth 20000 in
theorem ggX11_safe_X2_neverLost : GoodIn wsX11_safe wsX2_neverLost := goodIn_sub (fun _ h => List.mem_cons_of_mem _ (List.mem_append_right _ (h))) gX2_neverLost_all
set_option maxRecDepth 20000 in
theorem gX11_safe_X2_neverLost : GoodIn wsX11_safe (wsV RX11 185 RX2 yX2_neverLost wsX2_neverLost) := goodIn_app (goodIn_r _ [6, 7, 8, 5] rfl (by decide +kernel)) ggX11_safe_X2_neverLost
set_option maxRecDepth 100000 in
theorem dA133_cX12_canCome : kDec cX12_canCome [(0, .iload_n 1, 1), (1, .ifCond .eq 8, 3), (9, .iload_n 2, 1), (10, .sipush 128, 3), (13, .if_icmp .ge 7, 3), (20, .iconst 0, 1), (21, .ireturn, 1), (16, .iconst 1, 1), (17, .goto 4, 3), (4, .iload_n 1, 1), (5, .iconst 3, 1), (6, .if_icmp .ne 16, 3), (22, .iload_n 1, 1), (23, .iconst 1, 1), (24, .if_icmp .ne 5, 3), (29, .iload_n 1, 1), (30, .iconst 2, 1), (31, .if_icmp .ne 30, 3), (61, .aload_n 0, 1), (62, .getfield 19, 3), (65, .sipush 256, 3), (68, .iload_n 1, 1), (69, .iconst 4, 1), (70, .isub, 1)] = true := by decide +kernel
theorem dX12_canCome_0 : decode cX12_canCome 0 = .ok (.iload_n 1, 1) := kDec_at dA133_cX12_canCome 0 rfl
theorem dX12_canCome_1 : decode cX12_canCome 1 = .ok (.ifCond .eq 8, 3) := kDec_at dA133_cX12_canCome 1 rfl
theorem dX12_canCome_9 : decode cX12_canCome 9 = .ok (.iload_n 2, 1) := kDec_at dA133_cX12_canCome 2 rfl
theorem dX12_canCome_10 : decode cX12_canCome 10 = .ok (.sipush 128, 3) := kDec_at dA133_cX12_canCome 3 rfl
theorem dX12_canCome_13 : decode cX12_canCome 13 = .ok (.if_icmp .ge 7, 3) := kDec_at dA133_cX12_canCome 4 rfl
theorem dX12_canCome_20 : decode cX12_canCome 20 = .ok (.iconst 0, 1) := kDec_at dA133_cX12_canCome 5 rfl
theorem dX12_canCome_21 : decode cX12_canCome 21 = .ok (.ireturn, 1) := kDec_at dA133_cX12_canCome 6 rfl
theorem dX12_canCome_16 : decode cX12_canCome 16 = .ok (.iconst 1, 1) := kDec_at dA133_cX12_canCome 7 rfl
theorem dX12_canCome_17 : decode cX12_canCome 17 = .ok (.goto 4, 3) := kDec_at dA133_cX12_canCome 8 rfl
theorem dX12_canCome_4 : decode cX12_canCome 4 = .ok (.iload_n 1, 1) := kDec_at dA133_cX12_canCome 9 rfl
theorem dX12_canCome_5 : decode cX12_canCome 5 = .ok (.iconst 3, 1) := kDec_at dA133_cX12_canCome 10 rfl
theorem dX12_canCome_6 : decode cX12_canCome 6 = .ok (.if_icmp .ne 16, 3) := kDec_at dA133_cX12_canCome 11 rfl
theorem dX12_canCome_22 : decode cX12_canCome 22 = .ok (.iload_n 1, 1) := kDec_at dA133_cX12_canCome 12 rfl
theorem dX12_canCome_23 : decode cX12_canCome 23 = .ok (.iconst 1, 1) := kDec_at dA133_cX12_canCome 13 rfl
theorem dX12_canCome_24 : decode cX12_canCome 24 = .ok (.if_icmp .ne 5, 3) := kDec_at dA133_cX12_canCome 14 rfl
theorem dX12_canCome_29 : decode cX12_canCome 29 = .ok (.iload_n 1, 1) := kDec_at dA133_cX12_canCome 15 rfl
theorem dX12_canCome_30 : decode cX12_canCome 30 = .ok (.iconst 2, 1) := kDec_at dA133_cX12_canCome 16 rfl
theorem dX12_canCome_31 : decode cX12_canCome 31 = .ok (.if_icmp .ne 30, 3) := kDec_at dA133_cX12_canCome 17 rfl
theorem dX12_canCome_61 : decode cX12_canCome 61 = .ok (.aload_n 0, 1) := kDec_at dA133_cX12_canCome 18 rfl
theorem dX12_canCome_62 : decode cX12_canCome 62 = .ok (.getfield 19, 3) := kDec_at dA133_cX12_canCome 19 rfl
theorem dX12_canCome_65 : decode cX12_canCome 65 = .ok (.sipush 256, 3) := kDec_at dA133_cX12_canCome 20 rfl
theorem dX12_canCome_68 : decode cX12_canCome 68 = .ok (.iload_n 1, 1) := kDec_at dA133_cX12_canCome 21 rfl
theorem dX12_canCome_69 : decode cX12_canCome 69 = .ok (.iconst 4, 1) := kDec_at dA133_cX12_canCome 22 rfl
theorem dX12_canCome_70 : decode cX12_canCome 70 = .ok (.isub, 1) := kDec_at dA133_cX12_canCome 23 rfl
set_option maxRecDepth 100000 in
theorem dA134_cX12_canCome : kDec cX12_canCome [(71, .imul, 1), (72, .iload_n 2, 1), (73, .iadd, 1), (74, .iaload, 1), (75, .iconst (-1), 1), (76, .if_icmp .eq 7, 3), (83, .iconst 0, 1), (84, .ireturn, 1), (79, .iconst 1, 1), (80, .goto 4, 3), (34, .iload_n 2, 1), (35, .sipush 192, 3), (38, .if_icmp .lt 17, 3), (55, .iconst 1, 1), (56, .goto 4, 3), (60, .ireturn, 1), (41, .iload_n 2, 1), (42, .sipush 193, 3), (45, .if_icmp .le 14, 3), (59, .iconst 0, 1), (48, .iload_n 2, 1), (49, .sipush 240, 3), (52, .if_icmp .ge 7, 3), (27, .iconst 1, 1)] = true := by decide +kernel
theorem dX12_canCome_71 : decode cX12_canCome 71 = .ok (.imul, 1) := kDec_at dA134_cX12_canCome 0 rfl
theorem dX12_canCome_72 : decode cX12_canCome 72 = .ok (.iload_n 2, 1) := kDec_at dA134_cX12_canCome 1 rfl
theorem dX12_canCome_73 : decode cX12_canCome 73 = .ok (.iadd, 1) := kDec_at dA134_cX12_canCome 2 rfl
theorem dX12_canCome_74 : decode cX12_canCome 74 = .ok (.iaload, 1) := kDec_at dA134_cX12_canCome 3 rfl
theorem dX12_canCome_75 : decode cX12_canCome 75 = .ok (.iconst (-1), 1) := kDec_at dA134_cX12_canCome 4 rfl
theorem dX12_canCome_76 : decode cX12_canCome 76 = .ok (.if_icmp .eq 7, 3) := kDec_at dA134_cX12_canCome 5 rfl
theorem dX12_canCome_83 : decode cX12_canCome 83 = .ok (.iconst 0, 1) := kDec_at dA134_cX12_canCome 6 rfl
theorem dX12_canCome_84 : decode cX12_canCome 84 = .ok (.ireturn, 1) := kDec_at dA134_cX12_canCome 7 rfl
theorem dX12_canCome_79 : decode cX12_canCome 79 = .ok (.iconst 1, 1) := kDec_at dA134_cX12_canCome 8 rfl
theorem dX12_canCome_80 : decode cX12_canCome 80 = .ok (.goto 4, 3) := kDec_at dA134_cX12_canCome 9 rfl
theorem dX12_canCome_34 : decode cX12_canCome 34 = .ok (.iload_n 2, 1) := kDec_at dA134_cX12_canCome 10 rfl
theorem dX12_canCome_35 : decode cX12_canCome 35 = .ok (.sipush 192, 3) := kDec_at dA134_cX12_canCome 11 rfl
theorem dX12_canCome_38 : decode cX12_canCome 38 = .ok (.if_icmp .lt 17, 3) := kDec_at dA134_cX12_canCome 12 rfl
theorem dX12_canCome_55 : decode cX12_canCome 55 = .ok (.iconst 1, 1) := kDec_at dA134_cX12_canCome 13 rfl
theorem dX12_canCome_56 : decode cX12_canCome 56 = .ok (.goto 4, 3) := kDec_at dA134_cX12_canCome 14 rfl
theorem dX12_canCome_60 : decode cX12_canCome 60 = .ok (.ireturn, 1) := kDec_at dA134_cX12_canCome 15 rfl
theorem dX12_canCome_41 : decode cX12_canCome 41 = .ok (.iload_n 2, 1) := kDec_at dA134_cX12_canCome 16 rfl
theorem dX12_canCome_42 : decode cX12_canCome 42 = .ok (.sipush 193, 3) := kDec_at dA134_cX12_canCome 17 rfl
theorem dX12_canCome_45 : decode cX12_canCome 45 = .ok (.if_icmp .le 14, 3) := kDec_at dA134_cX12_canCome 18 rfl
theorem dX12_canCome_59 : decode cX12_canCome 59 = .ok (.iconst 0, 1) := kDec_at dA134_cX12_canCome 19 rfl
theorem dX12_canCome_48 : decode cX12_canCome 48 = .ok (.iload_n 2, 1) := kDec_at dA134_cX12_canCome 20 rfl
theorem dX12_canCome_49 : decode cX12_canCome 49 = .ok (.sipush 240, 3) := kDec_at dA134_cX12_canCome 21 rfl
theorem dX12_canCome_52 : decode cX12_canCome 52 = .ok (.if_icmp .ge 7, 3) := kDec_at dA134_cX12_canCome 22 rfl
theorem dX12_canCome_27 : decode cX12_canCome 27 = .ok (.iconst 1, 1) := kDec_at dA134_cX12_canCome 23 rfl
set_option maxRecDepth 100000 in
theorem dA135_cX12_canCome : kDec cX12_canCome [(28, .ireturn, 1)] = true := by decide +kernel
theorem dX12_canCome_28 : decode cX12_canCome 28 = .ok (.ireturn, 1) := kDec_at dA135_cX12_canCome 0 rfl
set_option maxRecDepth 100000 in
theorem dA136_cX12_safe : kDec cX12_safe [(0, .aload_n 0, 1), (1, .iconst 0, 1), (2, .putfield 85, 3), (5, .aload_n 0, 1), (6, .iconst (-1), 1), (7, .putfield 55, 3), (10, .iload_n 1, 1), (11, .invokestatic 158, 3), (14, .ifCond .eq 10, 3), (24, .iconst (-1), 1), (25, .ireturn, 1), (17, .iload_n 2, 1), (18, .invokestatic 158, 3), (21, .ifCond .ne 5, 3), (26, .iload_n 1, 1), (27, .iload_n 2, 1), (28, .if_icmp .ne 5, 3), (33, .iconst 0, 1), (34, .istore_n 3, 1), (35, .iload_n 3, 1), (36, .sipush 256, 3), (39, .if_icmp .ge 97, 3), (136, .iconst 1, 1), (137, .ireturn, 1)] = true := by decide +kernel
theorem dX12_safe_0 : decode cX12_safe 0 = .ok (.aload_n 0, 1) := kDec_at dA136_cX12_safe 0 rfl
theorem dX12_safe_1 : decode cX12_safe 1 = .ok (.iconst 0, 1) := kDec_at dA136_cX12_safe 1 rfl
theorem dX12_safe_2 : decode cX12_safe 2 = .ok (.putfield 85, 3) := kDec_at dA136_cX12_safe 2 rfl
theorem dX12_safe_5 : decode cX12_safe 5 = .ok (.aload_n 0, 1) := kDec_at dA136_cX12_safe 3 rfl
theorem dX12_safe_6 : decode cX12_safe 6 = .ok (.iconst (-1), 1) := kDec_at dA136_cX12_safe 4 rfl
theorem dX12_safe_7 : decode cX12_safe 7 = .ok (.putfield 55, 3) := kDec_at dA136_cX12_safe 5 rfl
theorem dX12_safe_10 : decode cX12_safe 10 = .ok (.iload_n 1, 1) := kDec_at dA136_cX12_safe 6 rfl
theorem dX12_safe_11 : decode cX12_safe 11 = .ok (.invokestatic 158, 3) := kDec_at dA136_cX12_safe 7 rfl
theorem dX12_safe_14 : decode cX12_safe 14 = .ok (.ifCond .eq 10, 3) := kDec_at dA136_cX12_safe 8 rfl
theorem dX12_safe_24 : decode cX12_safe 24 = .ok (.iconst (-1), 1) := kDec_at dA136_cX12_safe 9 rfl
theorem dX12_safe_25 : decode cX12_safe 25 = .ok (.ireturn, 1) := kDec_at dA136_cX12_safe 10 rfl
theorem dX12_safe_17 : decode cX12_safe 17 = .ok (.iload_n 2, 1) := kDec_at dA136_cX12_safe 11 rfl
theorem dX12_safe_18 : decode cX12_safe 18 = .ok (.invokestatic 158, 3) := kDec_at dA136_cX12_safe 12 rfl
theorem dX12_safe_21 : decode cX12_safe 21 = .ok (.ifCond .ne 5, 3) := kDec_at dA136_cX12_safe 13 rfl
theorem dX12_safe_26 : decode cX12_safe 26 = .ok (.iload_n 1, 1) := kDec_at dA136_cX12_safe 14 rfl
theorem dX12_safe_27 : decode cX12_safe 27 = .ok (.iload_n 2, 1) := kDec_at dA136_cX12_safe 15 rfl
theorem dX12_safe_28 : decode cX12_safe 28 = .ok (.if_icmp .ne 5, 3) := kDec_at dA136_cX12_safe 16 rfl
theorem dX12_safe_33 : decode cX12_safe 33 = .ok (.iconst 0, 1) := kDec_at dA136_cX12_safe 17 rfl
theorem dX12_safe_34 : decode cX12_safe 34 = .ok (.istore_n 3, 1) := kDec_at dA136_cX12_safe 18 rfl
theorem dX12_safe_35 : decode cX12_safe 35 = .ok (.iload_n 3, 1) := kDec_at dA136_cX12_safe 19 rfl
theorem dX12_safe_36 : decode cX12_safe 36 = .ok (.sipush 256, 3) := kDec_at dA136_cX12_safe 20 rfl
theorem dX12_safe_39 : decode cX12_safe 39 = .ok (.if_icmp .ge 97, 3) := kDec_at dA136_cX12_safe 21 rfl
theorem dX12_safe_136 : decode cX12_safe 136 = .ok (.iconst 1, 1) := kDec_at dA136_cX12_safe 22 rfl
theorem dX12_safe_137 : decode cX12_safe 137 = .ok (.ireturn, 1) := kDec_at dA136_cX12_safe 23 rfl
set_option maxRecDepth 20000 in
theorem ggX12_safe_X12_isCode : GoodIn wsX12_safe wsX12_isCode := goodIn_sub (fun _ h => List.mem_cons_of_mem _ (List.mem_append_left _ (List.mem_append_right _ (h)))) gX12_isCode_all
set_option maxRecDepth 20000 in
theorem gX12_safe_X12_isCode : GoodIn wsX12_safe (va_wsS RX12 158 yX12_isCode wsX12_isCode) := goodIn_app (goodIn_r _ [4, 5, 6] rfl (by decide +kernel)) ggX12_safe_X12_isCode
set_option maxRecDepth 100000 in
theorem dA137_cX12_safe : kDec cX12_safe [(42, .aload_n 0, 1), (43, .iload_n 1, 1), (44, .iload_n 3, 1), (45, .invokevirtual 177, 3), (48, .ifCond .ne 6, 3), (54, .iload_n 2, 1), (55, .iconst 1, 1), (56, .if_icmp .eq 60, 3), (116, .iconst 1, 1), (117, .goto 4, 3), (121, .istore 4, 2), (123, .iload 4, 2), (125, .ifCond .ne 5, 3), (130, .iinc 3 1, 3), (133, .goto (-98), 3), (59, .iload_n 2, 1), (60, .ifCond .eq 8, 3), (68, .iload_n 3, 1), (69, .sipush 128, 3), (72, .if_icmp .lt 44, 3), (75, .iload_n 2, 1), (76, .iconst 3, 1), (77, .if_icmp .ne 16, 3), (93, .iload_n 2, 1)] = true := by decide +kernel
theorem dX12_safe_42 : decode cX12_safe 42 = .ok (.aload_n 0, 1) := kDec_at dA137_cX12_safe 0 rfl
theorem dX12_safe_43 : decode cX12_safe 43 = .ok (.iload_n 1, 1) := kDec_at dA137_cX12_safe 1 rfl
theorem dX12_safe_44 : decode cX12_safe 44 = .ok (.iload_n 3, 1) := kDec_at dA137_cX12_safe 2 rfl
theorem dX12_safe_45 : decode cX12_safe 45 = .ok (.invokevirtual 177, 3) := kDec_at dA137_cX12_safe 3 rfl
theorem dX12_safe_48 : decode cX12_safe 48 = .ok (.ifCond .ne 6, 3) := kDec_at dA137_cX12_safe 4 rfl
theorem dX12_safe_54 : decode cX12_safe 54 = .ok (.iload_n 2, 1) := kDec_at dA137_cX12_safe 5 rfl
theorem dX12_safe_55 : decode cX12_safe 55 = .ok (.iconst 1, 1) := kDec_at dA137_cX12_safe 6 rfl
theorem dX12_safe_56 : decode cX12_safe 56 = .ok (.if_icmp .eq 60, 3) := kDec_at dA137_cX12_safe 7 rfl
theorem dX12_safe_116 : decode cX12_safe 116 = .ok (.iconst 1, 1) := kDec_at dA137_cX12_safe 8 rfl
theorem dX12_safe_117 : decode cX12_safe 117 = .ok (.goto 4, 3) := kDec_at dA137_cX12_safe 9 rfl
theorem dX12_safe_121 : decode cX12_safe 121 = .ok (.istore 4, 2) := kDec_at dA137_cX12_safe 10 rfl
theorem dX12_safe_123 : decode cX12_safe 123 = .ok (.iload 4, 2) := kDec_at dA137_cX12_safe 11 rfl
theorem dX12_safe_125 : decode cX12_safe 125 = .ok (.ifCond .ne 5, 3) := kDec_at dA137_cX12_safe 12 rfl
theorem dX12_safe_130 : decode cX12_safe 130 = .ok (.iinc 3 1, 3) := kDec_at dA137_cX12_safe 13 rfl
theorem dX12_safe_133 : decode cX12_safe 133 = .ok (.goto (-98), 3) := kDec_at dA137_cX12_safe 14 rfl
theorem dX12_safe_59 : decode cX12_safe 59 = .ok (.iload_n 2, 1) := kDec_at dA137_cX12_safe 15 rfl
theorem dX12_safe_60 : decode cX12_safe 60 = .ok (.ifCond .eq 8, 3) := kDec_at dA137_cX12_safe 16 rfl
theorem dX12_safe_68 : decode cX12_safe 68 = .ok (.iload_n 3, 1) := kDec_at dA137_cX12_safe 17 rfl
theorem dX12_safe_69 : decode cX12_safe 69 = .ok (.sipush 128, 3) := kDec_at dA137_cX12_safe 18 rfl
theorem dX12_safe_72 : decode cX12_safe 72 = .ok (.if_icmp .lt 44, 3) := kDec_at dA137_cX12_safe 19 rfl
theorem dX12_safe_75 : decode cX12_safe 75 = .ok (.iload_n 2, 1) := kDec_at dA137_cX12_safe 20 rfl
theorem dX12_safe_76 : decode cX12_safe 76 = .ok (.iconst 3, 1) := kDec_at dA137_cX12_safe 21 rfl
theorem dX12_safe_77 : decode cX12_safe 77 = .ok (.if_icmp .ne 16, 3) := kDec_at dA137_cX12_safe 22 rfl
theorem dX12_safe_93 : decode cX12_safe 93 = .ok (.iload_n 2, 1) := kDec_at dA137_cX12_safe 23 rfl
set_option maxRecDepth 20000 in
theorem gX12_canCome_all : wsX12_canCome.all goodWord = true := by
  unfold wsX12_canCome
  exact good_c (by decide +kernel) (good_a ((by decide +kernel)) gX12_clsall)
set_option maxRecDepth 20000 in
theorem ggX12_safe_X12_canCome : GoodIn wsX12_safe wsX12_canCome := goodIn_sub (fun _ h => List.mem_cons_of_mem _ (List.mem_append_right _ (h))) gX12_canCome_all
set_option maxRecDepth 20000 in
theorem gX12_safe_X12_canCome : GoodIn wsX12_safe (wsV RX12 177 RX12 yX12_canCome wsX12_canCome) := goodIn_app (goodIn_r _ [7, 8, 9, 6] rfl (by decide +kernel)) ggX12_safe_X12_canCome
set_option maxRecDepth 100000 in
theorem dA138_cX12_safe : kDec cX12_safe [(94, .iconst 3, 1), (95, .if_icmp .le 25, 3), (120, .iconst 0, 1), (128, .iconst 0, 1), (129, .ireturn, 1), (63, .iload_n 2, 1), (64, .iconst 2, 1), (65, .if_icmp .ne 10, 3), (98, .aload_n 0, 1), (99, .getfield 19, 3), (102, .sipush 256, 3), (105, .iload_n 2, 1), (106, .iconst 4, 1), (107, .isub, 1), (108, .imul, 1), (109, .iload_n 3, 1), (110, .iadd, 1), (111, .iaload, 1), (112, .iconst (-1), 1), (113, .if_icmp .eq 7, 3), (80, .iload_n 3, 1), (81, .sipush 128, 3), (84, .if_icmp .ge 9, 3), (87, .iload_n 3, 1)] = true := by decide +kernel
theorem dX12_safe_94 : decode cX12_safe 94 = .ok (.iconst 3, 1) := kDec_at dA138_cX12_safe 0 rfl
theorem dX12_safe_95 : decode cX12_safe 95 = .ok (.if_icmp .le 25, 3) := kDec_at dA138_cX12_safe 1 rfl
theorem dX12_safe_120 : decode cX12_safe 120 = .ok (.iconst 0, 1) := kDec_at dA138_cX12_safe 2 rfl
theorem dX12_safe_128 : decode cX12_safe 128 = .ok (.iconst 0, 1) := kDec_at dA138_cX12_safe 3 rfl
theorem dX12_safe_129 : decode cX12_safe 129 = .ok (.ireturn, 1) := kDec_at dA138_cX12_safe 4 rfl
theorem dX12_safe_63 : decode cX12_safe 63 = .ok (.iload_n 2, 1) := kDec_at dA138_cX12_safe 5 rfl
theorem dX12_safe_64 : decode cX12_safe 64 = .ok (.iconst 2, 1) := kDec_at dA138_cX12_safe 6 rfl
theorem dX12_safe_65 : decode cX12_safe 65 = .ok (.if_icmp .ne 10, 3) := kDec_at dA138_cX12_safe 7 rfl
theorem dX12_safe_98 : decode cX12_safe 98 = .ok (.aload_n 0, 1) := kDec_at dA138_cX12_safe 8 rfl
theorem dX12_safe_99 : decode cX12_safe 99 = .ok (.getfield 19, 3) := kDec_at dA138_cX12_safe 9 rfl
theorem dX12_safe_102 : decode cX12_safe 102 = .ok (.sipush 256, 3) := kDec_at dA138_cX12_safe 10 rfl
theorem dX12_safe_105 : decode cX12_safe 105 = .ok (.iload_n 2, 1) := kDec_at dA138_cX12_safe 11 rfl
theorem dX12_safe_106 : decode cX12_safe 106 = .ok (.iconst 4, 1) := kDec_at dA138_cX12_safe 12 rfl
theorem dX12_safe_107 : decode cX12_safe 107 = .ok (.isub, 1) := kDec_at dA138_cX12_safe 13 rfl
theorem dX12_safe_108 : decode cX12_safe 108 = .ok (.imul, 1) := kDec_at dA138_cX12_safe 14 rfl
theorem dX12_safe_109 : decode cX12_safe 109 = .ok (.iload_n 3, 1) := kDec_at dA138_cX12_safe 15 rfl
theorem dX12_safe_110 : decode cX12_safe 110 = .ok (.iadd, 1) := kDec_at dA138_cX12_safe 16 rfl
theorem dX12_safe_111 : decode cX12_safe 111 = .ok (.iaload, 1) := kDec_at dA138_cX12_safe 17 rfl
theorem dX12_safe_112 : decode cX12_safe 112 = .ok (.iconst (-1), 1) := kDec_at dA138_cX12_safe 18 rfl
theorem dX12_safe_113 : decode cX12_safe 113 = .ok (.if_icmp .eq 7, 3) := kDec_at dA138_cX12_safe 19 rfl
theorem dX12_safe_80 : decode cX12_safe 80 = .ok (.iload_n 3, 1) := kDec_at dA138_cX12_safe 20 rfl
theorem dX12_safe_81 : decode cX12_safe 81 = .ok (.sipush 128, 3) := kDec_at dA138_cX12_safe 21 rfl
theorem dX12_safe_84 : decode cX12_safe 84 = .ok (.if_icmp .ge 9, 3) := kDec_at dA138_cX12_safe 22 rfl
theorem dX12_safe_87 : decode cX12_safe 87 = .ok (.iload_n 3, 1) := kDec_at dA138_cX12_safe 23 rfl
set_option maxRecDepth 100000 in
theorem dA139_cX12_safe : kDec cX12_safe [(88, .bipush 38, 2), (90, .if_icmp .ne 26, 3), (51, .goto 79, 3), (31, .iconst 1, 1), (32, .ireturn, 1)] = true := by decide +kernel
theorem dX12_safe_88 : decode cX12_safe 88 = .ok (.bipush 38, 2) := kDec_at dA139_cX12_safe 0 rfl
theorem dX12_safe_90 : decode cX12_safe 90 = .ok (.if_icmp .ne 26, 3) := kDec_at dA139_cX12_safe 1 rfl
theorem dX12_safe_51 : decode cX12_safe 51 = .ok (.goto 79, 3) := kDec_at dA139_cX12_safe 2 rfl
theorem dX12_safe_31 : decode cX12_safe 31 = .ok (.iconst 1, 1) := kDec_at dA139_cX12_safe 3 rfl
theorem dX12_safe_32 : decode cX12_safe 32 = .ok (.ireturn, 1) := kDec_at dA139_cX12_safe 4 rfl

end
