/-! what the law carries: class and reference alike -/
theorem TX_n {l : Int32} {f eS eX : Nat → Int32} (h : TXR l f eS eX) : l.toInt = (eS 0).toInt := by rw [h.1]
theorem TX_e {l : Int32} {f eS eX : Nat → Int32} (h : TXR l f eS eX) : ∀ j : Nat, (j : Int) < l.toInt → f j = eX j := fun j hj => (h.2 j hj).1
theorem TX_p {l : Int32} {f eS eX : Nat → Int32} (h : TXR l f eS eX) : prg l.toInt 0 65535 f := fun j hj => ⟨(h.2 j hj).2.1, (h.2 j hj).2.2.1⟩
theorem TX_q {l : Int32} {f eS eX : Nat → Int32} (h : TXR l f eS eX) : prg (eS 0).toInt 0 65535 eX := fun j hj => by
  have e : (j : Int) < l.toInt := by rw [h.1]; exact hj
  rw [← TX_e h j e]; exact TX_p h j e
theorem TX_l {l : Int32} {f eS eX : Nat → Int32} (h : TXR l f eS eX) : ∀ j : Nat, (j : Int) < (eS 0).toInt → isLz (eX j) := fun j hj => by
  have e : (j : Int) < l.toInt := by rw [h.1]; exact hj
  rw [← TX_e h j e]; exact (h.2 j e).2
theorem TX_z {l : Int32} {f eS eX : Nat → Int32} (h : TXR l f eS eX) (h0 : 0 ≤ l.toInt) : 0 ≤ (eS 0).toInt := by rw [← h.1]; exact h0
theorem TX_0 {f eS eX : Nat → Int32} (h : eS 0 = 0) : TXR 0 f eS eX := ⟨h.symm, fun j hj => by
  have e : (0 : Int32).toInt = 0 := rfl
  omega⟩
/-- what choice() tells -/
def RVC (ke zy : Int32) (W4 W5 W6 W7 eH : Nat → Int32) : Prop := 0 ≤ zy.toInt ∧ ke.toInt = (m200 zy.toNatClampNeg : Int) ∧ ∀ i : Nat, (i : Int) < ke.toInt → ∀ k, k < 4 → CA W4 W5 W6 W7 i k = RA4 eH i k
def RFr (fsh zq zs : Int32) : Prop := (fsh.toInt = 1 ∧ zq.toInt = zs.toInt) ∨ (fsh.toInt = 0 ∧ zq.toInt < zs.toInt)
def RFx (fsh wi ri za zb : Int32) : Prop := fsh.toInt = 1 → wi = za ∧ ri = zb
def DFr (fsh fsh' zs zs' : Int32) : Prop := (fsh' = fsh ∧ zs' = zs) ∨ (fsh' = 0 ∧ zs'.toInt = zs.toInt + 1)
theorem RV_i {ke zy : Int32} {W4 W5 W6 W7 eH : Nat → Int32} (h : RVC ke zy W4 W5 W6 W7 eH) (x : Int) : x < ke.toInt ↔ (x < zy.toInt ∧ x < 200) := by
  obtain ⟨h0, h1, _⟩ := h
  have c := v_clamp h0
  rw [m2_v] at h1
  by_cases w : (zy.toNatClampNeg : Int) < 200
  · rw [if_pos w] at h1; omega
  · rw [if_neg w] at h1; omega
theorem fr_d {fsh fsh' zq zs zs' : Int32} (h : RFr fsh zq zs) (d : DFr fsh fsh' zs zs') : RFr fsh' zq zs' := by
  rcases d with ⟨e1, e2⟩ | ⟨e1, e2⟩
  · rw [e1, e2]; exact h
  · have z : (0 : Int32).toInt = 0 := rfl
    refine Or.inr ⟨by rw [e1]; rfl, ?_⟩
    rcases h with h | h <;> omega
theorem fx_d {fsh fsh' zs zs' wi ri za zb : Int32} (h : RFx fsh wi ri za zb) (d : DFr fsh fsh' zs zs') : RFx fsh' wi ri za zb := by
  rcases d with ⟨e1, e2⟩ | ⟨e1, e2⟩
  · rw [e1]; exact h
  · intro z
    rw [e1] at z
    exact absurd z (by decide)
theorem d_fs {no : Int} {r q fsh fsh' zs zs' : Int32} (h1 : F_fs no r fsh fsh') (h2 : F_zs no q zs zs') (e : r = q) : DFr fsh fsh' zs zs' := by
  subst e
  rcases h1 with ⟨a, b⟩ | ⟨a, b⟩ <;> rcases h2 with ⟨c, d⟩ | ⟨c, d⟩
  · exact Or.inl ⟨b, d⟩
  · exact absurd a c
  · exact absurd c a
  · exact Or.inr ⟨b, d⟩
theorem d_0 {fsh fsh' zs zs' : Int32} (h1 : fsh' = 0) (h2 : zs'.toInt = zs.toInt + 1) : DFr fsh fsh' zs zs' := Or.inr ⟨h1, h2⟩
theorem zs_1 {no : Int} {q zs zs' : Int32} (h : F_zs no q zs zs') (hq : ¬ q.toInt = no) : zs'.toInt = zs.toInt + 1 := by
  rcases h with ⟨a, _⟩ | ⟨_, b⟩
  · exact absurd a hq
  · exact b
theorem zs_0 {no : Int} {q zs zs' fsh : Int32} (h : F_zs no q zs zs') (hq : q.toInt = no) : DFr fsh fsh zs zs' := by
  rcases h with ⟨_, b⟩ | ⟨a, _⟩
  · exact Or.inl ⟨rfl, b⟩
  · exact absurd hq a
theorem d_sp {P Q : Prop} {fsh fsh' zs zs' : Int32} (h1 : F_fsP P fsh fsh') (h2 : F_zsP Q zs zs') (e : P ↔ Q) : DFr fsh fsh' zs zs' := by
  rcases h1 with ⟨a, b⟩ | ⟨a, b⟩ <;> rcases h2 with ⟨c, d⟩ | ⟨c, d⟩
  · exact Or.inr ⟨b, d⟩
  · exact absurd (e.mp a) c
  · exact absurd (e.mpr c) a
  · exact Or.inl ⟨b, d⟩
theorem sp_iff {t : Nat} {l cd fr n le sp : Int32} {f1 f2 f3 eL eB eD : Nat → Int32} (ht : t ≤ 1) (hcd : cd.toInt = 4 + t) (h : TR t l f1 f2 f3 eL eB eD) : CT fr n le sp (fun k => f1 k = -1) (nT f2 f3) ↔ ∃ t : Nat, cd.toInt = 4 + t ∧ t ≤ 1 ∧ CT fr n le sp (pL t eL) (pB t eB) := by
  constructor
  · exact fun w => ⟨t, hcd, ht, (TR_CT h).mp w⟩
  · rintro ⟨t', a1, a2, a3⟩
    have e : t' = t := by omega
    subst e
    exact (TR_CT h).mpr a3
theorem sp_no {fsh zs zs' cd fr n le sp : Int32} {eL eB : Nat → Int32} (h4 : ¬ cd.toInt = 4) (h5 : ¬ cd.toInt = 5) (h : F_zsP (∃ t : Nat, cd.toInt = 4 + t ∧ t ≤ 1 ∧ CT fr n le sp (pL t eL) (pB t eB)) zs zs') : DFr fsh fsh zs zs' := by
  rcases h with ⟨⟨t, a1, a2, _⟩, _⟩ | ⟨_, b⟩
  · omega
  · exact Or.inl ⟨rfl, b⟩
theorem frs_up {fsh zq zs zs' zy za zb : Int32} {eH eL f : Nat → Int32} {Bf : Int32 → Int32 → Int32} {n : Nat} (h : frsR zq zs zy za zb eH eL f Bf n) (hr : RFr fsh zq zs) (hz : zs.toInt ≤ zs'.toInt) : frsR zq zs' zy za zb eH eL f Bf n := by
  intro e
  refine h ?_
  rcases hr with hr | hr <;> omega
theorem frs_no {fsh zq zs zs' zy za zb : Int32} {eH eL f : Nat → Int32} {Bf : Int32 → Int32 → Int32} {n : Nat} (hr : RFr fsh zq zs) (hz : zs'.toInt = zs.toInt + 1) : frsR zq zs' zy za zb eH eL f Bf n := by
  intro e
  rcases hr with hr | hr <;> omega
theorem frs_st {fsh zq zs zs' zy za zb : Int32} {eH eL eX eX' eS eS' : Nat → Int32} {Bf : Int32 → Int32 → Int32} (h : frsR zq zs zy za zb eH eL eX Bf (eS 0).toInt.toNat) (hr : RFr fsh zq zs) (hs : F_st zs zs' eX eX' eS eS') : frsR zq zs' zy za zb eH eL eX' Bf (eS' 0).toInt.toNat := by
  rcases hs with e | ⟨e1, e2, e3⟩
  · exact frs_no hr e
  · rw [e1, e2, e3]; exact h
theorem frs_sp {fsh zq zs zs' zy za zb q cd fr n le sp : Int32} {eH eL gL eB gB eD gD f : Nat → Int32} {N : Nat} (h : frsR zq zs zy za zb eH eL f (fun c9 => Br c9 eB) N) (hr : RFr fsh zq zs) (hR : F_spanR q cd fr n le sp eL gL eB gB eD gD) (hz : F_zsP (∃ t : Nat, cd.toInt = 4 + t ∧ t ≤ 1 ∧ CT fr n le sp (pL t eL) (pB t eB)) zs zs') : frsR zq zs' zy za zb eH gL f (fun c9 => Br c9 gB) N := by
  rcases hz with ⟨_, e⟩ | ⟨w, e⟩
  · exact frs_no hr e
  · rcases hR with ⟨t, d1, d2, d3, _⟩ | ⟨_, d2, d3, _⟩
    · exact absurd ⟨t, d1, d2, d3⟩ w
    · rw [d2, d3, e]; exact h
theorem frs_bl {fsh zq zs zs' zy za zb q cd : Int32} {eH eL gL eB gB eD gD f : Nat → Int32} {N : Nat} (h : frsR zq zs zy za zb eH eL f (fun c9 => Br c9 eB) N) (hr : RFr fsh zq zs) (hR : F_blankR cd eL gL eB gB eD gD) (hz : F_zs 0 q zs zs') (hq : (q.toInt = 1 ∧ (cd.toInt = 4 ∨ cd.toInt = 5)) ∨ (q.toInt = 0 ∧ ¬ cd.toInt = 4 ∧ ¬ cd.toInt = 5)) : frsR zq zs' zy za zb eH gL f (fun c9 => Br c9 gB) N := by
  rcases hz with ⟨w, e⟩ | ⟨_, e⟩
  · rcases hR with ⟨t, d1, d2, _⟩ | ⟨_, _, d3, d4, _⟩
    · omega
    · rw [d3, d4, e]; exact h
  · exact frs_no hr e
section EREL
variable {l4 l5 : Int32} {f41 f42 f43 f51 f52 f53 eL eB eD : Nat → Int32}
theorem okB_cl (R4 : TR 0 l4 f41 f42 f43 eL eB eD) (R5 : TR 1 l5 f51 f52 f53 eL eB eD) (gB : rg (-1) 255 eB) (cd : Int32) : okB (Bc cd f42 f43 f52 f53) := by
  intro x h1 h2
  unfold Bc
  split
  · rw [TR_bf R4 h1 h2]; exact gB _
  · rw [TR_bf R5 h1 h2]; exact gB _
theorem UR_lz {e1 e2 : Nat → Int32} (hz : LZ eL) (gB : rg (-1) 255 eB) (z : Nat) : ∀ (h n c : Nat) (f f' : Nat → Int32), h < z → prg n 0 65535 f → UR e1 e2 eL eB h n f c f' → ∀ i, i < c → isLz (f' i) := fun h n c f f' _ hf hu => (HM_lz hz hf (okB_r gB) hu).2
theorem e_md {no : Int} {r q fsh fsh' zs zs' gn gn' lG lG' lL lL' zp zp' zf zf' lH zh zc n gi : Int32} {fG1 fG1' fG2 fG2' fL fL' eS eS' eX eX' fH1 fH2 e1 e2 fK1 fK2 ec1 ec2 ec3 R1 R2 R3 : Nat → Int32} (R4 : TR 0 l4 f41 f42 f43 eL eB eD) (R5 : TR 1 l5 f51 f52 f53 eL eB eD) (hz : LZ eL) (gB : rg (-1) 255 eB) (gL : rg (-1) 65535 eL) (hH : lH.toInt = zh.toInt) (h0H : 0 ≤ lH.toInt) (hHe : eqP lH.toInt fH1 e1 fH2 e2) (hCV : CVR zc.toInt fK1 fK2 ec1 ec2 ec3) (hT : TXR lL fL eS eX) (hC : CHR gn lG zp zf fG1 fG2 eS eX)
    (hg : (¬ (1 ≤ n.toInt ∧ n.toInt ≤ 3 ∧ 1 ≤ gi.toInt ∧ gi.toInt ≤ 100000)) ∨ rGE (UC fH1 fH2 f41 f42 f43 f51 f52 f53) (tcC fK1 fK2) lH.toNatClampNeg lL.toInt.toNat fL n.toInt R1 R2 R3)
    (h : OC no r fsh fsh' gn gn' lG lG' lL lL' fG1 fG1' fG2 fG2' fL fL' (mdP (UC fH1 fH2 f41 f42 f43 f51 f52 f53) (tcC fK1 fK2) lH.toNatClampNeg lL.toInt.toNat fL n.toInt gi.toInt R1))
    (h' : ∀ R1 R2 R3 : Nat → Int32, (1 ≤ n.toInt ∧ n.toInt ≤ 3 ∧ 1 ≤ gi.toInt ∧ gi.toInt ≤ 100000 → rGE (UR e1 e2 eL eB) (tcR zc.toInt ec1 ec2 ec3) zh.toNatClampNeg (eS 0).toInt.toNat eX n.toInt R1 R2 R3) → OR no q zs zs' zp zp' zf zf' eS eS' eX eX' (mdP (UR e1 e2 eL eB) (tcR zc.toInt ec1 ec2 ec3) zh.toNatClampNeg (eS 0).toInt.toNat eX n.toInt gi.toInt R1))
    (hl0 : 0 ≤ lL.toInt) (hl3 : lL.toInt ≤ 300) (hgn : 0 ≤ gn.toInt ∧ gn.toInt ≤ 19) (hzp : 0 ≤ zp.toInt ∧ zp.toInt ≤ 20) (hzf : 0 ≤ zf.toInt ∧ zf.toInt ≤ 19) (h2 : rg 0 300 fG2) : r = q ∧ TXR lL' fL' eS' eX' ∧ CHR gn' lG' zp' zf' fG1' fG2' eS' eX' ∧ DFr fsh fsh' zs zs' := by
  have eH : lH = zh := v_inj hH
  subst eH
  have cH := v_clamp h0H
  have eN : (eS 0).toInt.toNat = lL.toInt.toNat := by rw [hT.1]
  have hf : prg (lL.toInt.toNat : Nat) 0 65535 fL := fun j hj => TX_p hT j (by omega)
  have hf2 : prg (lL.toInt.toNat : Nat) 0 65535 eX := fun j hj => TX_q hT j (by rw [← TX_n hT]; omega)
  have hfe : ∀ i, i < lL.toInt.toNat → fL i = eX i := fun i hi => TX_e hT i (by omega)
  have hU := okU_C (H1 := fH1) (H2 := fH2) (okB_cl R4 R5 gB) (TR_r R4 gL) (TR_r R5 gL)
  have hV := okU_R (e1 := e1) (e2 := e2) gB gL
  have he : ∀ h, h < lH.toNatClampNeg → ∀ (n c : Nat) (f f' : Nat → Int32), prg n 0 65535 f → (UC fH1 fH2 f41 f42 f43 f51 f52 f53 h n f c f' ↔ UR e1 e2 eL eB h n f c f') := fun h hh n c f f' hp => UCR R4 R5 gB (hHe h (by omega)).1 (hHe h (by omega)).2 hp
  have w := h' R1 R2 R3 (fun g => by
    rw [eN]
    exact ge_iff hU hV (by omega) hf hfe he hCV (hg.resolve_left (fun z => z g)))
  rw [eN] at w
  exact chg_rel hT hC h w (md_iff hU hV (by omega) hf hfe he hCV) (md_ok hV (by omega) hf2 (UR_lz hz gB _)) hl0 hl3 hgn hzp hzf h2
theorem e_pt {no : Int} {r q fsh fsh' zs zs' gn gn' lG lG' lL lL' zp zp' zf zf' lH zh zc : Int32} {pe : Int} {fG1 fG1' fG2 fG2' fL fL' eS eS' eX eX' fH1 fH2 e1 e2 fK1 fK2 ec1 ec2 ec3 : Nat → Int32} (R4 : TR 0 l4 f41 f42 f43 eL eB eD) (R5 : TR 1 l5 f51 f52 f53 eL eB eD) (hz : LZ eL) (gB : rg (-1) 255 eB) (gL : rg (-1) 65535 eL) (hH : lH.toInt = zh.toInt) (h0H : 0 ≤ lH.toInt) (hHe : eqP lH.toInt fH1 e1 fH2 e2) (hCV : CVR zc.toInt fK1 fK2 ec1 ec2 ec3) (hT : TXR lL fL eS eX) (hC : CHR gn lG zp zf fG1 fG2 eS eX)
    (h : OC no r fsh fsh' gn gn' lG lG' lL lL' fG1 fG1' fG2 fG2' fL fL' (ptP (UC fH1 fH2 f41 f42 f43 f51 f52 f53) (tcC fK1 fK2) lH.toNatClampNeg lL.toNatClampNeg fL pe))
    (h' : OR no q zs zs' zp zp' zf zf' eS eS' eX eX' (ptP (UR e1 e2 eL eB) (tcR zc.toInt ec1 ec2 ec3) zh.toNatClampNeg (eS 0).toInt.toNat eX pe))
    (hl0 : 0 ≤ lL.toInt) (hl3 : lL.toInt ≤ 300) (hgn : 0 ≤ gn.toInt ∧ gn.toInt ≤ 19) (hzp : 0 ≤ zp.toInt ∧ zp.toInt ≤ 20) (hzf : 0 ≤ zf.toInt ∧ zf.toInt ≤ 19) (h2 : rg 0 300 fG2) : r = q ∧ TXR lL' fL' eS' eX' ∧ CHR gn' lG' zp' zf' fG1' fG2' eS' eX' ∧ DFr fsh fsh' zs zs' := by
  have eH : lH = zh := v_inj hH
  subst eH
  have cH := v_clamp h0H
  have cL := v_clamp hl0
  have eN : (eS 0).toInt.toNat = lL.toNatClampNeg := by rw [← hT.1]; omega
  have hf : prg (lL.toNatClampNeg : Nat) 0 65535 fL := fun j hj => TX_p hT j (by omega)
  have hf2 : prg (lL.toNatClampNeg : Nat) 0 65535 eX := fun j hj => TX_q hT j (by rw [← TX_n hT]; omega)
  have hl2 : ∀ i, i < lL.toNatClampNeg → isLz (eX i) := fun i hi => TX_l hT i (by rw [← TX_n hT]; omega)
  have hfe : ∀ i, i < lL.toNatClampNeg → fL i = eX i := fun i hi => TX_e hT i (by omega)
  have hU := okU_C (H1 := fH1) (H2 := fH2) (okB_cl R4 R5 gB) (TR_r R4 gL) (TR_r R5 gL)
  have hV := okU_R (e1 := e1) (e2 := e2) gB gL
  have he : ∀ h, h < lH.toNatClampNeg → ∀ (n c : Nat) (f f' : Nat → Int32), prg n 0 65535 f → (UC fH1 fH2 f41 f42 f43 f51 f52 f53 h n f c f' ↔ UR e1 e2 eL eB h n f c f') := fun h hh n c f f' hp => UCR R4 R5 gB (hHe h (by omega)).1 (hHe h (by omega)).2 hp
  rw [eN] at h'
  exact chg_rel hT hC h h' (pt_iff hU hf hfe hV he hCV) (pt_ok hV hf2 hl2 (UR_lz hz gB _)) hl0 hl3 hgn hzp hzf h2
/-- a fresh choice, on both sides -/
theorem frs_C {fsh ke wi ri zq zs zy za zb lL : Int32} {W4 W5 W6 W7 eH fL eS eX : Nat → Int32} (R4 : TR 0 l4 f41 f42 f43 eL eB eD) (R5 : TR 1 l5 f51 f52 f53 eL eB eD) (gB : rg (-1) 255 eB) (hT : TXR lL fL eS eX) (hv : RVC ke zy W4 W5 W6 W7 eH) (hr : RFr fsh zq zs) (hx : RFx fsh wi ri za zb) (h : frsR zq zs zy za zb eH eL eX (fun c9 => Br c9 eB) (eS 0).toInt.toNat) : frsC fsh ke wi ri W4 W5 f41 f51 fL (fun c9 => Bc c9 f42 f43 f52 f53) lL.toInt.toNat := by
  intro e
  have eq : zq.toInt = zs.toInt := by rcases hr with hr | hr <;> omega
  obtain ⟨x1, x2⟩ := hx e
  subst x1
  subst x2
  obtain ⟨a1, a2, a3⟩ := h eq
  rw [← hT.1] at a1 a2 a3
  have hfe : ∀ j, j < lL.toInt.toNat → eX j = fL j := fun j hj => (TX_e hT j (by omega)).symm
  have hf2 : prg (lL.toInt.toNat : Nat) 0 65535 eX := fun j hj => TX_q hT j (by rw [← TX_n hT]; omega)
  have em := mkB_cg lL.toInt.toNat hfe
  refine ⟨by rw [← em]; exact a1, a2, fun i hi => ?_⟩
  have q := (RV_i hv i).mp hi
  obtain ⟨⟨b1, b2, b3⟩, b4, b5, c, f', b6⟩ := a3 i q.1 (by omega)
  have v0 : (W4 i).toInt = (eH (4 * i)).toInt := hv.2.2 i hi 0 (by omega)
  have v1 : (W5 i).toInt = (eH (4 * i + 1)).toInt := hv.2.2 i hi 1 (by omega)
  have by9 : byV eX lL.toInt.toNat (eH (4 * i)).toInt (eH (4 * i + 1)).toInt := ⟨b1, b3.imp (fun z => z) (fun z => ⟨z, b2.2⟩)⟩
  rw [v0, v1]
  refine ⟨⟨b1, ?_⟩, c, f', VCH_t hf2 (okB_r gB) by9 hfe (fun k hk => (TR_L4 R4 k hk).symm) (fun k hk => (TR_L5 R5 k hk).symm) (fun x h1 h2 => (enc_eq R4 R5 h1 h2).symm) (fun _ _ _ => rfl) b6⟩
  rw [← em]
  exact by9.2
theorem cs_iff {fsh ke wi ri zq zs zy za zb lL i : Int32} {W4 W5 W6 W7 eH fL eS eX : Nat → Int32} (R4 : TR 0 l4 f41 f42 f43 eL eB eD) (R5 : TR 1 l5 f51 f52 f53 eL eB eD) (gB : rg (-1) 255 eB) (hT : TXR lL fL eS eX) (hv : RVC ke zy W4 W5 W6 W7 eH) (hr : RFr fsh zq zs) (hx : RFx fsh wi ri za zb) (h : frsR zq zs zy za zb eH eL eX (fun c9 => Br c9 eB) (eS 0).toInt.toNat) : ∀ c fm v, csP fsh ke wi ri i W4 W5 f41 f51 fL (Bc ri f42 f43 f52 f53) lL.toInt.toNat c fm v ↔ csR zq zs zy za zb i eH eL eX (Br zb eB) (eS 0).toInt.toNat c fm v := by
  intro c fm v
  have hf : prg (lL.toInt.toNat : Nat) 0 65535 fL := fun j hj => TX_p hT j (by omega)
  have hf2 : prg (lL.toInt.toNat : Nat) 0 65535 eX := fun j hj => TX_q hT j (by rw [← TX_n hT]; omega)
  have hfe : ∀ j, j < lL.toInt.toNat → fL j = eX j := fun j hj => TX_e hT j (by omega)
  have fC := frs_C R4 R5 gB hT hv hr hx h
  have eN := hT.1
  constructor
  · rintro ⟨v1, ⟨b1, b2, b3⟩, b4⟩
    have eq : zq.toInt = zs.toInt := by rcases hr with hr | hr <;> omega
    obtain ⟨x1, x2⟩ := hx b1
    have q := (RV_i hv _).mp b3
    have ci := v_clamp b2
    have v0 : (W4 i.toNatClampNeg).toInt = (eH (4 * i.toNatClampNeg)).toInt := hv.2.2 i.toNatClampNeg (by omega) 0 (by omega)
    have v2 : (W5 i.toNatClampNeg).toInt = (eH (4 * i.toNatClampNeg + 1)).toInt := hv.2.2 i.toNatClampNeg (by omega) 1 (by omega)
    have by9 := ((fC b1).2.2 i.toNatClampNeg (by omega)).1
    rw [v0, v2] at b4 by9
    refine ⟨v1, ⟨eq, b2, q.1, q.2⟩, ?_⟩
    rw [← eN, ← x1, ← x2]
    exact VCH_t hf (okB_cl R4 R5 gB ri) by9 hfe (TR_L4 R4) (TR_L5 R5) (fun x h1 h2 => enc_eq R4 R5 h1 h2) (fun _ _ _ => rfl) b4
  · rintro ⟨v1, ⟨b1, b2, b3, b5⟩, b4⟩
    have b0 : fsh.toInt = 1 := by rcases hr with hr | hr <;> omega
    obtain ⟨x1, x2⟩ := hx b0
    have b6 := (RV_i hv _).mpr ⟨b3, b5⟩
    have ci := v_clamp b2
    have v0 : (W4 i.toNatClampNeg).toInt = (eH (4 * i.toNatClampNeg)).toInt := hv.2.2 i.toNatClampNeg (by omega) 0 (by omega)
    have v2 : (W5 i.toNatClampNeg).toInt = (eH (4 * i.toNatClampNeg + 1)).toInt := hv.2.2 i.toNatClampNeg (by omega) 1 (by omega)
    have by9 := ((fC b0).2.2 i.toNatClampNeg (by omega)).1
    rw [v0, v2] at by9
    have em := mkB_cg lL.toInt.toNat hfe
    have by8 : byV eX lL.toInt.toNat (eH (4 * i.toNatClampNeg)).toInt (eH (4 * i.toNatClampNeg + 1)).toInt := ⟨by9.1, by rw [← em]; exact by9.2⟩
    refine ⟨v1, ⟨b0, b2, b6⟩, ?_⟩
    rw [← eN, ← x1, ← x2] at b4
    rw [v0, v2]
    exact VCH_t hf2 (okB_r gB) by8 (fun j hj => (hfe j hj).symm) (fun k hk => (TR_L4 R4 k hk).symm) (fun k hk => (TR_L5 R5 k hk).symm) (fun x h1 h2 => (enc_eq R4 R5 h1 h2).symm) (fun _ _ _ => rfl) b4
theorem cs_ok {zq zs zy za zb i : Int32} {eH eS eX : Nat → Int32} (hz : LZ eL) (gB : rg (-1) 255 eB) (hf : prg (eS 0).toInt 0 65535 eX) (h : frsR zq zs zy za zb eH eL eX (fun c9 => Br c9 eB) (eS 0).toInt.toNat) : okQ (csR zq zs zy za zb i eH eL eX (Br zb eB) (eS 0).toInt.toNat) := by
  have hf2 : prg ((eS 0).toInt.toNat : Nat) 0 65535 eX := fun j hj => hf j (by omega)
  rintro c fm v ⟨v1, ⟨b1, b2, b3, b5⟩, b4⟩
  have ci := v_clamp b2
  obtain ⟨⟨c1, c2, c3⟩, _⟩ := (h b1).2.2 i.toNatClampNeg (by omega) (by omega)
  have by9 : byV eX (eS 0).toInt.toNat (eH (4 * i.toNatClampNeg)).toInt (eH (4 * i.toNatClampNeg + 1)).toInt := ⟨c1, c3.imp (fun z => z) (fun z => ⟨z, c2.2⟩)⟩
  refine ⟨?_, ?_⟩
  · obtain ⟨m, g, a1, a2, a3, a4, a5⟩ := b4
    refine ⟨a4, fun j hj => ?_⟩
    rw [a5 j hj]
    exact dx_lz hz (WRV_b a1 hf2 (okB_r gB) by9) (a3.2 j hj)
  · rintro c' fm' v' ⟨w1, _, w4⟩
    obtain ⟨q1, q2⟩ := VCH_u hf2 (okB_r gB) by9 b4 w4
    exact ⟨q1, by omega, q2⟩
theorem ent_1 {o w s l : Int} : ent (if (1 : Nat) = 1 then -1 else o) (if (1 : Nat) = 1 then o else w) s l 0 = o ∧ ent (if (1 : Nat) = 1 then -1 else o) (if (1 : Nat) = 1 then o else w) s l 1 = -1 := by simp [ent]
theorem ent_2 {o w s l : Int} (h : 0 ≤ o) : ent (if (2 : Nat) = 1 then -1 else o) (if (2 : Nat) = 1 then o else w) s l 0 = o ∧ ent (if (2 : Nat) = 1 then -1 else o) (if (2 : Nat) = 1 then o else w) s l 1 = w := by
  have z : ¬ o = -1 := by omega
  simp [ent, z]
theorem VCH_w {a b : Int32} {L4 L5 f f' : Nat → Int32} {Bf : Int32 → Int32} {n c : Nat} {v1 v2 w1 w2 : Int} (h : VCH a b L4 L5 Bf n f v1 v2 c f') (hw : ∀ j, j < n → f j = 65533 → (if mkB f j = 0 then v1 else v2) = (if mkB f j = 0 then w1 else w2)) : VCH a b L4 L5 Bf n f w1 w2 c f' := by
  obtain ⟨m, g, a1, a2, a3, a4, a5⟩ := h
  have ee : ∀ j, j < n → EV b Bf f v1 v2 j = EV b Bf f w1 w2 j := fun j hj => by
    by_cases z : f j = 65533
    · rw [EV_m z, EV_m z, hw j hj z]
    · rw [EV_n z, EV_n z]
  refine ⟨m, g, WR_congr a1 ee, fun i hi he => ?_, a3, a4, a5⟩
  have q := a2 i hi he
  rw [psE_congr i (fun j hj => ee j (by omega))] at q
  exact q
/-- choices found, on both sides -/
theorem ch_mem {a b zq zs zy : Int32} {T : Int32 → Int32 → Int32} {eH eX : Nat → Int32} {B : Nat → Nat → Int} {n J : Nat} (hmk : mkB eX n = 1 ∨ mkB eX n = 2) (h100 : n ≤ 100) (h : FLD (VX a b (fun k => eL k) (fun k => eL (256 + k)) (Br b eB) T n eX (mkB eX n)) 0 0 B J zy.toNatClampNeg (RA4 eH)) : frsR zq zs zy a b eH eL eX (fun c9 => Br c9 eB) n := by
  intro _
  refine ⟨hmk, h100, fun i hi h2 => ?_⟩
  have him : i < m200 zy.toNatClampNeg := by
    have c := v_clamp (x := zy) (by omega)
    unfold m200
    split <;> omega
  obtain ⟨t, e, _, ⟨o, w, r1, r2, r3, r4, r5, c, f', r6, r7⟩, he⟩ := FLD_mem J _ _ h i him
  have e0 : (eH (4 * i)).toInt = _ := (he 0 (by omega)).trans (r7 0 (by omega))
  have e1 : (eH (4 * i + 1)).toInt = _ := (he 1 (by omega)).trans (r7 1 (by omega))
  rcases hmk with z | z
  · rw [z, ent_1.1] at e0
    rw [z, ent_1.2] at e1
    have x0 : eH (4 * i) = o := v_inj e0
    refine ⟨⟨by rw [x0]; exact r1, by omega, Or.inl (by omega)⟩, by rw [x0]; exact r4, Or.inl (by omega), c, f', ?_⟩
    rw [x0, e1]
    refine VCH_w r6 (fun j hj hm => ?_)
    have q := mkB_m eX (i := j + 1) n (by omega)
    rw [mkB_y hm] at q
    rw [if_pos (by omega), if_pos (by omega)]
  · rw [z, (ent_2 r1.1).1] at e0
    rw [z, (ent_2 r1.1).2] at e1
    have x0 : eH (4 * i) = o := v_inj e0
    have x1 : eH (4 * i + 1) = w := v_inj e1
    refine ⟨⟨by rw [x0]; exact r1, by omega, Or.inr (by omega)⟩, by rw [x0]; exact r4, Or.inr (by rw [x1]; exact r5 z), c, f', ?_⟩
    rw [x0, x1]
    exact r6
theorem VCH_lz {a b : Int32} {f f' : Nat → Int32} {Bf : Int32 → Int32} {n c : Nat} {v1 v2 : Int} (hz : LZ eL) (hf : prg n 0 65535 f) (hB : okB Bf) (hv : byV f n v1 v2) (h : VCH a b (fun k => eL k) (fun k => eL (256 + k)) Bf n f v1 v2 c f') : prg c 0 65535 f' := by
  obtain ⟨m, g, a1, a2, a3, a4, a5⟩ := h
  intro j hj
  have q := dx_lz (cd := a) hz (WRV_b a1 hf hB hv) (a3.2 j (by omega))
  rw [a5 j (by omega)]
  exact ⟨q.1, q.2.1⟩
theorem VX_iff {a b zc : Int32} {fK1 fK2 ec1 ec2 ec3 fL eX : Nat → Int32} {n mk t : Nat} {e : Nat → Int} (R4 : TR 0 l4 f41 f42 f43 eL eB eD) (R5 : TR 1 l5 f51 f52 f53 eL eB eD) (hz : LZ eL) (gB : rg (-1) 255 eB) (hCV : CVR zc.toInt fK1 fK2 ec1 ec2 ec3) (hf : prg n 0 65535 fL) (hfe : ∀ j, j < n → fL j = eX j) : VX a b f41 f51 (Bc b f42 f43 f52 f53) (tcC fK1 fK2) n fL mk t e ↔ VX a b (fun k => eL k) (fun k => eL (256 + k)) (Br b eB) (tcR zc.toInt ec1 ec2 ec3) n eX mk t e := by
  have hf2 : prg n 0 65535 eX := fun j hj => by rw [← hfe j (by omega)]; exact hf j hj
  constructor
  · rintro ⟨o, w, r1, r2, r3, r4, r5, c, f', r6, r7⟩
    have q := VCH_t hf (okB_cl R4 R5 gB b) ⟨r1, Or.inr r2⟩ hfe (TR_L4 R4) (TR_L5 R5) (fun x h1 h2 => enc_eq R4 R5 h1 h2) (fun _ _ _ => rfl) r6
    have pz := VCH_lz hz hf2 (okB_r gB) ⟨r1, Or.inr r2⟩ q
    refine ⟨o, w, r1, r2, r3, by rw [← alF_congr (TR_L4 R4) (TR_L5 R5) r1.1 r1.2]; exact r4, fun z => by rw [← alF_congr (TR_L4 R4) (TR_L5 R5) r2.1 r2.2]; exact r5 z, c, f', q, fun k hk => ?_⟩
    rw [r7 k hk, cT_congr rfl (by omega) hCV pz (fun _ _ => rfl)]
  · rintro ⟨o, w, r1, r2, r3, r4, r5, c, f', r6, r7⟩
    have pz := VCH_lz hz hf2 (okB_r gB) ⟨r1, Or.inr r2⟩ r6
    have q := VCH_t hf2 (okB_r gB) ⟨r1, Or.inr r2⟩ (fun j hj => (hfe j hj).symm) (fun k hk => (TR_L4 R4 k hk).symm) (fun k hk => (TR_L5 R5 k hk).symm) (fun x h1 h2 => (enc_eq R4 R5 h1 h2).symm) (fun _ _ _ => rfl) r6
    refine ⟨o, w, r1, r2, r3, by rw [alF_congr (TR_L4 R4) (TR_L5 R5) r1.1 r1.2]; exact r4, fun z => by rw [alF_congr (TR_L4 R4) (TR_L5 R5) r2.1 r2.2]; exact r5 z, c, f', q, fun k hk => ?_⟩
    rw [r7 k hk, cT_congr rfl (by omega) hCV pz (fun _ _ => rfl)]
theorem e_ch {r q a b lL ke ke' fsh fsh' wi wi' ri ri' zy zy' za za' zb zb' zq zq' zs zc : Int32} {W4 W4' W5 W5' W6 W6' W7 W7' eH eH' fL eS eX fK1 fK2 ec1 ec2 ec3 : Nat → Int32} (R4 : TR 0 l4 f41 f42 f43 eL eB eD) (R5 : TR 1 l5 f51 f52 f53 eL eB eD) (hz : LZ eL) (gB : rg (-1) 255 eB) (hCV : CVR zc.toInt fK1 fK2 ec1 ec2 ec3) (hT : TXR lL fL eS eX) (hl0 : 0 ≤ lL.toInt) (hv : RVC ke zy W4 W5 W6 W7 eH) (hr : RFr fsh zq zs) (hx : RFx fsh wi ri za zb) (hs : frsR zq zs zy za zb eH eL eX (fun c9 => Br c9 eB) (eS 0).toInt.toNat)
    (h : F_chx (okd a ∧ okd b ∧ (mkB fL lL.toInt.toNat = 1 ∨ mkB fL lL.toInt.toNat = 2) ∧ lL.toInt ≤ 100 ∧ ∀ i, i < lL.toInt.toNat → ¬ EV b (Bc b f42 f43 f52 f53) fL 0 0 i = []) r (FLD (VX a b f41 f51 (Bc b f42 f43 f52 f53) (tcC fK1 fK2) lL.toInt.toNat fL (mkB fL lL.toInt.toNat)) 0 0 (fun _ _ => (0 : Int)) (if mkB fL lL.toInt.toNat = 1 then 256 else 65536) r.toNatClampNeg (CA W4' W5' W6' W7') ∧ 0 ≤ r.toInt ∧ r.toInt ≤ 65536 ∧ ke'.toInt = (m200 r.toNatClampNeg : Int) ∧ fsh' = 1 ∧ wi' = a ∧ ri' = b) (ke' = ke ∧ fsh' = fsh ∧ wi' = wi ∧ ri' = ri ∧ W4' = W4 ∧ W5' = W5 ∧ W6' = W6 ∧ W7' = W7))
    (h' : F_chx (okd a ∧ okd b ∧ (mkB eX (eS 0).toInt.toNat = 1 ∨ mkB eX (eS 0).toInt.toNat = 2) ∧ (eS 0).toInt ≤ 100 ∧ ∀ i, i < (eS 0).toInt.toNat → ¬ EV b (Br b eB) eX 0 0 i = []) q (FLD (VX a b (fun k => eL k) (fun k => eL (256 + k)) (Br b eB) (tcR zc.toInt ec1 ec2 ec3) (eS 0).toInt.toNat eX (mkB eX (eS 0).toInt.toNat)) 0 0 (fun _ _ => (0 : Int)) (if mkB eX (eS 0).toInt.toNat = 1 then 256 else 65536) q.toNatClampNeg (RA4 eH') ∧ 0 ≤ q.toInt ∧ q.toInt ≤ 65536 ∧ zy' = q ∧ za' = a ∧ zb' = b ∧ zq' = zs) (zy' = zy ∧ za' = za ∧ zb' = zb ∧ zq' = zq ∧ eH' = eH)) : r = q ∧ RVC ke' zy' W4' W5' W6' W7' eH' ∧ RFr fsh' zq' zs ∧ RFx fsh' wi' ri' za' zb' ∧ frsR zq' zs zy' za' zb' eH' eL eX (fun c9 => Br c9 eB) (eS 0).toInt.toNat := by
  have hf : prg (lL.toInt.toNat : Nat) 0 65535 fL := fun j hj => TX_p hT j (by omega)
  have hf2 : prg (lL.toInt.toNat : Nat) 0 65535 eX := fun j hj => TX_q hT j (by rw [← TX_n hT]; omega)
  have hfe : ∀ j, j < lL.toInt.toNat → fL j = eX j := fun j hj => TX_e hT j (by omega)
  have em := mkB_cg lL.toInt.toNat hfe
  have ee : ∀ i, i < lL.toInt.toNat → EV b (Bc b f42 f43 f52 f53) fL 0 0 i = EV b (Br b eB) eX 0 0 i := fun i hi => EV_cg hi hf hfe (fun x h1 h2 => enc_eq R4 R5 h1 h2) (fun _ _ _ => rfl)
  have eN := hT.1
  rw [← eN] at h' hs ⊢
  rw [em] at h
  have i1 : (∀ i, i < lL.toInt.toNat → ¬ EV b (Bc b f42 f43 f52 f53) fL 0 0 i = []) ↔ (∀ i, i < lL.toInt.toNat → ¬ EV b (Br b eB) eX 0 0 i = []) := ⟨fun w i hi => by rw [← ee i hi]; exact w i hi, fun w i hi => by rw [ee i hi]; exact w i hi⟩
  rw [i1] at h
  rcases h with ⟨⟨k1, k2, hmk, h100, k5⟩, p1, p2, p3, p4, p5, p6, p7⟩ | ⟨n0, n1, n2, n3, n4, n5, n6, n7, n8, n9⟩ <;> rcases h' with ⟨o0, s1, s2, s3, s4, s5, s6, s7⟩ | ⟨m0, m1, m2, m3, m4, m5, m6⟩
  · have u := FLD_iff _ _ _ (fun t e _ => VX_iff (t := 0 + t) (e := e) R4 R5 hz gB hCV hf hfe) p1
    obtain ⟨u1, u2⟩ := FLD_u (VX_fn hf2 (okB_r gB)) (fun _ _ _ _ => rfl) _ _ _ _ _ u s1
    have cr := v_clamp p2
    have cq := v_clamp s2
    have erq : r = q := v_inj (by omega)
    subst s4
    subst s5
    subst s6
    subst s7
    subst p5
    subst p6
    subst p7
    subst erq
    refine ⟨rfl, ⟨s2, p4, fun i hi k hk => u2 i (by omega) k hk⟩, Or.inl ⟨rfl, rfl⟩, fun _ => ⟨rfl, rfl⟩, ch_mem hmk (by omega) s1⟩
  · exact absurd ⟨k1, k2, hmk, h100, k5⟩ m0
  · exact absurd o0 n0
  · refine ⟨v_inj (by omega), ?_⟩
    rw [n2, n3, n4, n5, n6, n7, n8, n9, m2, m3, m4, m5, m6]
    exact ⟨hv, hr, hx, hs⟩
end EREL
theorem e_bk {r q gn gn' lG lG' l l' zp zp' zf : Int32} {f1 f2 f f' eS eS' eX eX' : Nat → Int32} (hT : TXR l f eS eX) (hC : CHR gn lG zp zf f1 f2 eS eX) (h : F_bk r gn gn' lG lG' l l' f1 f2 f f') (h' : F_tbR q zp zp' zf eS eS' eX eX') (hg : 0 ≤ gn.toInt ∧ gn.toInt ≤ 19) (hz : 0 ≤ zp.toInt ∧ zp.toInt ≤ 20) (hzf : 0 ≤ zf.toInt ∧ zf.toInt ≤ 19) (h2 : rg 0 300 f2) : r = q ∧ TXR l' f' eS' eX' ∧ CHR gn' lG' zp' zf f1 f2 eS' eX' := by
  obtain ⟨k, hk, ⟨b1, b2⟩ | ⟨b1, b2⟩⟩ := h
  · have w := back_rel hC hk b1 h' hg hz hzf h2
    exact ⟨v_inj (b2.trans w.1.symm), w.2⟩
  · have c1 := hC.1
    rcases hk with ⟨a1, _⟩ | ⟨_, a2, a3, a4, a5, a6⟩
    · omega
    · rcases h' with ⟨d1, _⟩ | ⟨d1, d2, d3, d4, d5⟩
      · omega
      · refine ⟨v_inj (b2.trans d2.symm), ?_⟩
        rw [a3, a4, a5, a6, d3, d4, d5]
        exact ⟨hT, hC⟩
theorem e_cnt {r q lL lT lH lG lK l4 l5 zt zh zp zc gn zf : Int32} {wh : Int} {fL eS eX eD fG1 fG2 f41 f42 f43 f51 f52 f53 eL eB : Nat → Int32} (hT : TXR lL fL eS eX) (hrel : lT.toInt = zt.toInt) (hH : lH.toInt = zh.toInt) (hC : CHR gn lG zp zf fG1 fG2 eS eX) (hK : lK.toInt = zc.toInt) (R4 : TR 0 l4 f41 f42 f43 eL eB eD) (R5 : TR 1 l5 f51 f52 f53 eL eB eD) (h : F_cnt r.toInt wh lL.toInt lT.toInt lH.toInt lG.toInt (mkB fL lL.toInt.toNat) lK.toInt l4.toInt l5.toInt) (h' : F_cnt q.toInt wh (eS 0).toInt zt.toInt zh.toInt zp.toInt (mkB eX (eS 0).toInt.toNat) zc.toInt (eD 0).toInt (eD 1).toInt) : r = q := by
  have em := mkB_cg (f := fL) (e := eX) lL.toInt.toNat (fun j hj => TX_e hT j (by omega))
  rw [← hT.1, ← em, ← hrel, ← hH, ← hC.1, ← hK, ← R4.2.2.1, ← R5.2.2.1] at h'
  exact cnt_eq h h'
theorem e_sz {r q cd lL l4 l5 : Int32} {fL eS eX f41 f42 f43 f51 f52 f53 eL eB eD : Nat → Int32} (R4 : TR 0 l4 f41 f42 f43 eL eB eD) (R5 : TR 1 l5 f51 f52 f53 eL eB eD) (hT : TXR lL fL eS eX) (h : F_sz r cd (Bc cd f42 f43 f52 f53) lL.toInt.toNat fL) (h' : F_sz q cd (Br cd eB) (eS 0).toInt.toNat eX) : r = q := by
  rw [← hT.1] at h'
  exact sz_eq (fun j hj => TX_p hT j (by omega)) (fun j hj => TX_e hT j (by omega)) (fun x h1 h2 => enc_eq R4 R5 h1 h2) h h'
theorem e_by {r q cd i lL l4 l5 : Int32} {fL eS eX f41 f42 f43 f51 f52 f53 eL eB eD : Nat → Int32} (R4 : TR 0 l4 f41 f42 f43 eL eB eD) (R5 : TR 1 l5 f51 f52 f53 eL eB eD) (hT : TXR lL fL eS eX) (h : F_by r cd i (Bc cd f42 f43 f52 f53) lL.toInt.toNat fL) (h' : F_by q cd i (Br cd eB) (eS 0).toInt.toNat eX) : r = q := by
  rw [← hT.1] at h'
  exact by_eq (fun j hj => TX_p hT j (by omega)) (fun j hj => TX_e hT j (by omega)) (fun x h1 h2 => enc_eq R4 R5 h1 h2) h h'
theorem e_wo {r q lL zc : Int32} {fL eS eX fK1 fK2 ec1 ec2 ec3 : Nat → Int32} (hT : TXR lL fL eS eX) (h0 : 0 ≤ lL.toInt) (hCV : CVR zc.toInt fK1 fK2 ec1 ec2 ec3) (h : r.toInt = cT (tcC fK1 fK2) lL.toInt fL) (h' : q.toInt = cT (tcR zc.toInt ec1 ec2 ec3) (eS 0).toInt eX) : r = q := v_inj (h.trans ((cT_congr (TX_n hT) h0 hCV (TX_p hT) (TX_e hT)).trans h'.symm))
theorem e_cc {r q i wh ke zy : Int32} {W4 W5 W6 W7 eH : Nat → Int32} (hv : RVC ke zy W4 W5 W6 W7 eH) (h : (0 ≤ i.toInt ∧ i.toInt < ke.toInt ∧ 0 ≤ wh.toInt ∧ wh.toInt ≤ 3 ∧ r.toInt = (CA W4 W5 W6 W7) i.toNatClampNeg wh.toNatClampNeg) ∨ (¬ (0 ≤ i.toInt ∧ i.toInt < ke.toInt ∧ 0 ≤ wh.toInt ∧ wh.toInt ≤ 3) ∧ r.toInt = -1)) (h' : (0 ≤ i.toInt ∧ i.toInt < zy.toInt ∧ i.toInt < 200 ∧ 0 ≤ wh.toInt ∧ wh.toInt ≤ 3 ∧ q.toInt = RA4 eH i.toNatClampNeg wh.toNatClampNeg) ∨ (¬ (0 ≤ i.toInt ∧ i.toInt < zy.toInt ∧ i.toInt < 200 ∧ 0 ≤ wh.toInt ∧ wh.toInt ≤ 3) ∧ q.toInt = -1)) : r = q := by
  have k := RV_i hv i.toInt
  rcases h with ⟨a1, a2, a3, a4, a5⟩ | ⟨a1, a2⟩ <;> rcases h' with ⟨b1, b2, b3, b4, b5, b6⟩ | ⟨b1, b2⟩
  · have ci := v_clamp a1
    have cw := v_clamp a3
    exact v_inj (a5.trans ((hv.2.2 _ (by omega) _ (by omega)).trans b6.symm))
  · exact absurd ⟨a1, (k.mp a2).1, (k.mp a2).2, a3, a4⟩ b1
  · exact absurd ⟨b1, k.mpr ⟨b2, b3⟩, b4, b5⟩ a1
  · exact v_inj (a2.trans b2.symm)
/-! as it begins -/
theorem LB_0 {t : Nat} {eL eB : Nat → Int32} (h1 : ∀ k, eL k = -1) (h2 : ∀ k, eB k = -1) : LB t eL eB := by
  intro v x hv x0 x1
  rw [h1, h2]
  have m1 : (-1 : Int32).toInt = -1 := rfl
  exact ⟨fun e => absurd e.symm (v_nn x0), fun e => by omega⟩
theorem CV_0 {z : Int} {K V X Y Z : Nat → Int32} (hz : z ≤ 0) (h : ∀ k, V k = -1) : CVR z K V X Y Z := by
  intro x y _ _ _ _
  rw [tcR_no (noP_0 hz)]
  refine tcC_no (fun v w => ?_)
  obtain ⟨j, j1, j2, j3, j4⟩ := w
  exact j4 (j3.symm.trans (h j))
theorem CH_0 {f1 f2 eS eX : Nat → Int32} (h : ∀ k, f2 k = 0) (h2 : ∀ k, eS k = 0) : CHR 0 0 0 0 f1 f2 eS eX := by
  have z : (0 : Int32).toInt = 0 := rfl
  refine ⟨rfl, by rw [z]; rfl, fun s _ => ⟨by rw [h, h2], fun k hk => ?_⟩⟩
  rw [h] at hk
  omega
theorem RV_0 {W4 W5 W6 W7 eH : Nat → Int32} : RVC 0 0 W4 W5 W6 W7 eH := by
  have z : (0 : Int32).toInt = 0 := rfl
  refine ⟨by omega, by rw [z]; rfl, fun i hi => ?_⟩
  omega
theorem FR_0 : RFr 0 (-1) 0 := Or.inr ⟨rfl, by decide⟩
