set_option maxHeartbeats 8000000 in
set_option maxRecDepth 100000 in
theorem law_loop {p : Program} {l : Launch} {e : Env} {s : State} {m : MethodId} {below : List Frame} {meth : Method} {c : Code} {A : Nat → Prop} {E : zG} {b L : Nat} {xs : Nat → Int32} {o h0 b1 b2 b3 b4 r0 c1 c2 x0 d1 g0 f0 t0 e1 e2 y0 z1 z2 z3 z4 z5 z6 z7 z8 z9 w1 w2 w3 w4 w5 w6 w7 : Nat} {f4 k4 : Nat → Int64} {fo kp : Nat → Int32} (hL : L ≤ 2048) (C : cx p s m #[Value.ref b] meth c code 4 "StatePuzzlesLaw" ret) (hX : va_X b L xs s s.heap) (hbl : b < s.heap.size) (hbA : ¬ A b) (hA : ∀ q, s.heap.size ≤ q → A q) (hK : kt E s) (hst : stt A s s.heap) (hT : ∀ j, j < 41 → f4 j = lN (tw_F j) ∧ fo j = nI (tw_K j)) (hT2 : ∀ j, j < 41 → k4 j = lN (tw_F j) ∧ kp j = nI (tw_K j)) (hAs : ∀ q, A q → s.heap.size ≤ q) : ∀ (f q : Nat), q + f = 513 → law_LI p l e s m below meth c A E b o h0 b1 b2 b3 b4 r0 c1 c2 x0 d1 g0 f0 t0 e1 e2 y0 z1 z2 z3 z4 z5 z6 z7 z8 z9 w1 w2 w3 w4 w5 w6 w7 f4 k4 fo kp q := by
  obtain ⟨hx, hb, hr, hml, hown, hts, hlk⟩ := id C
  intro f
  induction f with
  | zero =>
    intro q hq
    intro jc k a1 a2 n q1 q2 nf pg ds sp mn ce sl sz fl fS fF fW fV fL fN fU fT fQ f1 f2 fH g1 g2 mE mQ mP mA mB mL mN tt bo mt cn th mt2 mb x1 x2 x3 hJ hF0 hW hk hn hnf hp hd hsp hce hsl hcr H locs ls hP hD hS hl
    refine lv_iload_n hx hb d_La_law_18 rfl (lv_at hl 3 rfl) ?_
    refine lv_aload_n hx hb d_La_law_19 rfl (lv_at hl 0 rfl) ?_
    refine zz_slenN C hX hbl hbA hS d_La_law_20 ?_
    refine lv_iconst (v := 4) hx hb d_La_law_21 (by decide) ?_
    refine lv_isub hx hb d_La_law_22 ?_
    refine lv_icmp_gt (tgt := 477) hx hb d_La_law_23 (by decide) (fun c_6 => ?_) (fun c_6 => ?_)
    · refine lv_iconst (v := 1) hx hb d_La_law_477 (by decide) ?_
      refine va_forget (fun z hz => hAs _ (hS.2.2 z hz)) ?_
      refine W.widen (k := 600000) (n := 7302250) (by omega) (by omega) ?_
      exact lw_ret hx hb hr hlk d_La_law_478
    · have hq4 : 4 * q + 4 ≤ L := zz_lawlt hL (by omega) c_6
      exact absurd hq4 (by omega)
  | succ f ihf =>
    intro q hq
    intro jc k a1 a2 n q1 q2 nf pg ds sp mn ce sl sz fl fS fF fW fV fL fN fU fT fQ f1 f2 fH g1 g2 mE mQ mP mA mB mL mN tt bo mt cn th mt2 mb x1 x2 x3 hJ hF0 hW hk hn hnf hp hd hsp hce hsl hcr H locs ls hP hD hS hl
    refine lv_iload_n hx hb d_La_law_18 rfl (lv_at hl 3 rfl) ?_
    refine lv_aload_n hx hb d_La_law_19 rfl (lv_at hl 0 rfl) ?_
    refine zz_slenN C hX hbl hbA hS d_La_law_20 ?_
    refine lv_iconst (v := 4) hx hb d_La_law_21 (by decide) ?_
    refine lv_isub hx hb d_La_law_22 ?_
    refine lv_icmp_gt (tgt := 477) hx hb d_La_law_23 (by decide) (fun c_7 => ?_) (fun c_7 => ?_)
    · refine lv_iconst (v := 1) hx hb d_La_law_477 (by decide) ?_
      refine va_forget (fun z hz => hAs _ (hS.2.2 z hz)) ?_
      refine W.widen (k := 600000) (n := 7302250) (by omega) (by omega) ?_
      exact lw_ret hx hb hr hlk d_La_law_478
    · have hq4 : 4 * q + 4 ≤ L := zz_lawlt hL (by omega) c_7
      have ih := ihf (q + 1) (by omega)
      refine lv_aload_n hx hb d_La_law_26 rfl (lv_at hl 0 rfl) ?_
      refine lv_iload_n hx hb d_La_law_27 rfl (lv_at hl 3 rfl) ?_
      refine zz_sldN C hX hbl hbA hS (j := (4 * q)) (by omega) hL d_La_law_28 ?_
      refine lv_bipush (v := 15) hx hb d_La_law_29 (by decide) ?_
      refine lv_iand hx hb d_La_law_31 ?_
      obtain ⟨z, hzb, hze⟩ := pk_andE (xs (4 * q)) (m := 15) 4 rfl
      refine zz_eqi hze ?_
      rcases (show z = 0 ∨ z = 1 ∨ z = 2 ∨ z = 3 ∨ z = 4 ∨ z = 5 ∨ z = 6 ∨ z = 7 ∨ z = 8 ∨ z = 9 ∨ z = 10 ∨ z = 11 ∨ z = 12 ∨ z = 13 ∨ z = 14 ∨ z = 15 by omega) with rfl | rfl | rfl | rfl | rfl | rfl | rfl | rfl | rfl | rfl | rfl | rfl | rfl | rfl | rfl | rfl
      · refine lv_tableIn (tgt := 92) hx hb d_La_law_32 (by decide) (by decide) rfl (by decide) ?_
        exact law_c0 hL C hX hbl hbA hA hK hst hT hT2 hq4 ih jc k a1 a2 n q1 q2 nf pg ds sp mn ce sl sz fl fS fF fW fV fL fN fU fT fQ f1 f2 fH g1 g2 mE mQ mP mA mB mL mN tt bo mt cn th mt2 mb x1 x2 x3 hJ hF0 hW hk hn hnf hp hd hsp hce hsl hcr _ _ ls hP hD hS hl
      · refine lv_tableIn (tgt := 125) hx hb d_La_law_32 (by decide) (by decide) rfl (by decide) ?_
        exact law_c1 hL C hX hbl hbA hA hK hst hT hT2 hq4 ih jc k a1 a2 n q1 q2 nf pg ds sp mn ce sl sz fl fS fF fW fV fL fN fU fT fQ f1 f2 fH g1 g2 mE mQ mP mA mB mL mN tt bo mt cn th mt2 mb x1 x2 x3 hJ hF0 hW hk hn hnf hp hd hsp hce hsl hcr _ _ ls hP hD hS hl
      · refine lv_tableIn (tgt := 158) hx hb d_La_law_32 (by decide) (by decide) rfl (by decide) ?_
        exact law_c2 hL C hX hbl hbA hA hK hst hT hT2 hq4 ih jc k a1 a2 n q1 q2 nf pg ds sp mn ce sl sz fl fS fF fW fV fL fN fU fT fQ f1 f2 fH g1 g2 mE mQ mP mA mB mL mN tt bo mt cn th mt2 mb x1 x2 x3 hJ hF0 hW hk hn hnf hp hd hsp hce hsl hcr _ _ ls hP hD hS hl
      · refine lv_tableIn (tgt := 171) hx hb d_La_law_32 (by decide) (by decide) rfl (by decide) ?_
        exact law_c3 hL C hX hbl hbA hA hK hst hT hT2 hq4 ih jc k a1 a2 n q1 q2 nf pg ds sp mn ce sl sz fl fS fF fW fV fL fN fU fT fQ f1 f2 fH g1 g2 mE mQ mP mA mB mL mN tt bo mt cn th mt2 mb x1 x2 x3 hJ hF0 hW hk hn hnf hp hd hsp hce hsl hcr _ _ ls hP hD hS hl
      · refine lv_tableIn (tgt := 194) hx hb d_La_law_32 (by decide) (by decide) rfl (by decide) ?_
        exact law_c4 hL C hX hbl hbA hA hK hst hT hT2 hq4 ih jc k a1 a2 n q1 q2 nf pg ds sp mn ce sl sz fl fS fF fW fV fL fN fU fT fQ f1 f2 fH g1 g2 mE mQ mP mA mB mL mN tt bo mt cn th mt2 mb x1 x2 x3 hJ hF0 hW hk hn hnf hp hd hsp hce hsl hcr _ _ ls hP hD hS hl
      · refine lv_tableIn (tgt := 207) hx hb d_La_law_32 (by decide) (by decide) rfl (by decide) ?_
        exact law_c5 hL C hX hbl hbA hA hK hst hT hT2 hq4 ih jc k a1 a2 n q1 q2 nf pg ds sp mn ce sl sz fl fS fF fW fV fL fN fU fT fQ f1 f2 fH g1 g2 mE mQ mP mA mB mL mN tt bo mt cn th mt2 mb x1 x2 x3 hJ hF0 hW hk hn hnf hp hd hsp hce hsl hcr _ _ ls hP hD hS hl
      · refine lv_tableIn (tgt := 256) hx hb d_La_law_32 (by decide) (by decide) rfl (by decide) ?_
        exact law_c6 hL C hX hbl hbA hA hK hst hT hT2 hq4 ih jc k a1 a2 n q1 q2 nf pg ds sp mn ce sl sz fl fS fF fW fV fL fN fU fT fQ f1 f2 fH g1 g2 mE mQ mP mA mB mL mN tt bo mt cn th mt2 mb x1 x2 x3 hJ hF0 hW hk hn hnf hp hd hsp hce hsl hcr _ _ ls hP hD hS hl
      · refine lv_tableIn (tgt := 289) hx hb d_La_law_32 (by decide) (by decide) rfl (by decide) ?_
        exact law_c7 hL C hX hbl hbA hA hK hst hT hT2 hq4 ih jc k a1 a2 n q1 q2 nf pg ds sp mn ce sl sz fl fS fF fW fV fL fN fU fT fQ f1 f2 fH g1 g2 mE mQ mP mA mB mL mN tt bo mt cn th mt2 mb x1 x2 x3 hJ hF0 hW hk hn hnf hp hd hsp hce hsl hcr _ _ ls hP hD hS hl
      · refine lv_tableIn (tgt := 322) hx hb d_La_law_32 (by decide) (by decide) rfl (by decide) ?_
        exact law_c8 hL C hX hbl hbA hA hK hst hT hT2 hq4 ih jc k a1 a2 n q1 q2 nf pg ds sp mn ce sl sz fl fS fF fW fV fL fN fU fT fQ f1 f2 fH g1 g2 mE mQ mP mA mB mL mN tt bo mt cn th mt2 mb x1 x2 x3 hJ hF0 hW hk hn hnf hp hd hsp hce hsl hcr _ _ ls hP hD hS hl
      · refine lv_tableIn (tgt := 385) hx hb d_La_law_32 (by decide) (by decide) rfl (by decide) ?_
        exact law_c9 hL C hX hbl hbA hA hK hst hT hT2 hq4 ih jc k a1 a2 n q1 q2 nf pg ds sp mn ce sl sz fl fS fF fW fV fL fN fU fT fQ f1 f2 fH g1 g2 mE mQ mP mA mB mL mN tt bo mt cn th mt2 mb x1 x2 x3 hJ hF0 hW hk hn hnf hp hd hsp hce hsl hcr _ _ ls hP hD hS hl
      · refine lv_tableIn (tgt := 408) hx hb d_La_law_32 (by decide) (by decide) rfl (by decide) ?_
        exact law_c10 hL C hX hbl hbA hA hK hst hT hT2 hq4 ih jc k a1 a2 n q1 q2 nf pg ds sp mn ce sl sz fl fS fF fW fV fL fN fU fT fQ f1 f2 fH g1 g2 mE mQ mP mA mB mL mN tt bo mt cn th mt2 mb x1 x2 x3 hJ hF0 hW hk hn hnf hp hd hsp hce hsl hcr _ _ ls hP hD hS hl
      · refine lv_tableOut (tgt := 471) hx hb d_La_law_32 (by decide) (by decide) ?_
        exact law_c11 hL C hX hbl hbA hA hK hst hT hT2 hq4 ih jc k a1 a2 n q1 q2 nf pg ds sp mn ce sl sz fl fS fF fW fV fL fN fU fT fQ f1 f2 fH g1 g2 mE mQ mP mA mB mL mN tt bo mt cn th mt2 mb x1 x2 x3 hJ hF0 hW hk hn hnf hp hd hsp hce hsl hcr _ _ ls hP hD hS hl
      · refine lv_tableOut (tgt := 471) hx hb d_La_law_32 (by decide) (by decide) ?_
        exact law_c11 hL C hX hbl hbA hA hK hst hT hT2 hq4 ih jc k a1 a2 n q1 q2 nf pg ds sp mn ce sl sz fl fS fF fW fV fL fN fU fT fQ f1 f2 fH g1 g2 mE mQ mP mA mB mL mN tt bo mt cn th mt2 mb x1 x2 x3 hJ hF0 hW hk hn hnf hp hd hsp hce hsl hcr _ _ ls hP hD hS hl
      · refine lv_tableOut (tgt := 471) hx hb d_La_law_32 (by decide) (by decide) ?_
        exact law_c11 hL C hX hbl hbA hA hK hst hT hT2 hq4 ih jc k a1 a2 n q1 q2 nf pg ds sp mn ce sl sz fl fS fF fW fV fL fN fU fT fQ f1 f2 fH g1 g2 mE mQ mP mA mB mL mN tt bo mt cn th mt2 mb x1 x2 x3 hJ hF0 hW hk hn hnf hp hd hsp hce hsl hcr _ _ ls hP hD hS hl
      · refine lv_tableOut (tgt := 471) hx hb d_La_law_32 (by decide) (by decide) ?_
        exact law_c11 hL C hX hbl hbA hA hK hst hT hT2 hq4 ih jc k a1 a2 n q1 q2 nf pg ds sp mn ce sl sz fl fS fF fW fV fL fN fU fT fQ f1 f2 fH g1 g2 mE mQ mP mA mB mL mN tt bo mt cn th mt2 mb x1 x2 x3 hJ hF0 hW hk hn hnf hp hd hsp hce hsl hcr _ _ ls hP hD hS hl
      · refine lv_tableOut (tgt := 471) hx hb d_La_law_32 (by decide) (by decide) ?_
        exact law_c11 hL C hX hbl hbA hA hK hst hT hT2 hq4 ih jc k a1 a2 n q1 q2 nf pg ds sp mn ce sl sz fl fS fF fW fV fL fN fU fT fQ f1 f2 fH g1 g2 mE mQ mP mA mB mL mN tt bo mt cn th mt2 mb x1 x2 x3 hJ hF0 hW hk hn hnf hp hd hsp hce hsl hcr _ _ ls hP hD hS hl
