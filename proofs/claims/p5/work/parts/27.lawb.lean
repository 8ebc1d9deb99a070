/-! THE LAW: reading the script, cases of numbers. -/
section LWB
variable {p : Program} {l : Launch} {e : Env} {R : Room} {s : State} {m : MethodId} {args : Array Value} {below : List Frame} {meth : Method} {c : Code} {H : Heap} {locs : List Loc} {cells slots : Nat} {Q : State → Prop}
variable {cc : ByteArray} {pc nL : Nat} {ls : Array Slot} {rest : List Value} {A : Nat → Prop} {own : String} {ret : Option FieldType}
theorem zz_sldN (C : cx p s m args meth c cc nL own ret) {b L : Nat} {xs : Nat → Int32} (hX : va_X b L xs s s.heap) (hbl : b < s.heap.size) (hbA : ¬ A b) (hS : va_S A s.heap H locs) {j : Nat} (hj : j < L) (hL : L ≤ 2048) (hdg : decode cc pc = .ok (.iaload, 1))
    (kk : W p l e R s m args below meth c H locs cells slots Q (F0 m (pc + 1) ls (.int (xs j) :: rest))) : W p l e R s m args below meth c H locs cells slots Q (F0 m pc ls (.int (nI j) :: .ref b :: rest)) := by
  refine va_sld C.1 C.2.1 hX hbl hbA hS (vp_in_nI hj (by omega)) hdg ?_
  rw [nI_clamp (by omega)]
  exact kk
theorem zz_slenN (C : cx p s m args meth c cc nL own ret) {b L : Nat} {xs : Nat → Int32} (hX : va_X b L xs s s.heap) (hbl : b < s.heap.size) (hbA : ¬ A b) (hS : va_S A s.heap H locs) (hdg : decode cc pc = .ok (.arraylength, 1))
    (kk : W p l e R s m args below meth c H locs cells slots Q (F0 m (pc + 1) ls (.int (nI L) :: rest))) : W p l e R s m args below meth c H locs cells slots Q (F0 m pc ls (.ref b :: rest)) := va_slen C.1 C.2.1 hX hbl hbA hS hdg kk
end LWB
theorem zz_lawlt {L q : Nat} (hL : L ≤ 2048) (hq : q ≤ 600) (h : ¬ nI L - 4 < nI (4 * q)) : 4 * q + 4 ≤ L := by
  rw [Int32.lt_iff_toInt_lt, nI_toInt (by omega), show (4 : Int32) = nI 4 from rfl, pk_sub_toInt (by omega) (by decide)] at h
  omega
theorem zz_c13 (x : Int32) : (x < 1 ∨ 13 < x) ∨ ∃ k, 1 ≤ k ∧ k ≤ 13 ∧ x = nI k := by
  by_cases h1 : x < 1
  · exact Or.inl (Or.inl h1)
  · by_cases h2 : 13 < x
    · exact Or.inl (Or.inr h2)
    · rw [Int32.lt_iff_toInt_lt] at h1 h2
      have e1 : (1 : Int32).toInt = 1 := by decide
      have e2 : (13 : Int32).toInt = 13 := by decide
      rw [e1] at h1
      rw [e2] at h2
      refine Or.inr ⟨x.toInt.toNat, by omega, by omega, ?_⟩
      apply Int32.toInt_inj.mp
      rw [nI_toInt (by omega)]
      omega
theorem zz_c60 (x : Int32) : (x < 0 ∨ 60 < x) ∨ ∃ k, k ≤ 60 ∧ x = nI k := by
  by_cases h1 : x < 0
  · exact Or.inl (Or.inl h1)
  · by_cases h2 : 60 < x
    · exact Or.inl (Or.inr h2)
    · rw [Int32.lt_iff_toInt_lt] at h1 h2
      have e1 : (0 : Int32).toInt = 0 := by decide
      have e2 : (60 : Int32).toInt = 60 := by decide
      rw [e1] at h1
      rw [e2] at h2
      refine Or.inr ⟨x.toInt.toNat, by omega, ?_⟩
      apply Int32.toInt_inj.mp
      rw [nI_toInt (by omega)]
      omega
theorem zz_ctw (x y : Int32) : ¬ (¬ x < 3 ∧ ¬ 4 < x ∧ ¬ y < 0 ∧ y ≤ 40) ∨ ∃ p2 d2, (p2 = 3 ∨ p2 = 4) ∧ d2 ≤ 40 ∧ x = nI p2 ∧ y = nI d2 := by
  by_cases h : ¬ x < 3 ∧ ¬ 4 < x ∧ ¬ y < 0 ∧ y ≤ 40
  · obtain ⟨h1, h2, h3, h4⟩ := h
    rw [Int32.lt_iff_toInt_lt] at h1 h2 h3
    rw [Int32.le_iff_toInt_le] at h4
    have e0 : (0 : Int32).toInt = 0 := by decide
    have e3 : (3 : Int32).toInt = 3 := by decide
    have e4 : (4 : Int32).toInt = 4 := by decide
    have e5 : (40 : Int32).toInt = 40 := by decide
    rw [e3] at h1
    rw [e4] at h2
    rw [e0] at h3
    rw [e5] at h4
    refine Or.inr ⟨x.toInt.toNat, y.toInt.toNat, by omega, by omega, ?_, ?_⟩
    · apply Int32.toInt_inj.mp
      rw [nI_toInt (by omega)]
      omega
    · apply Int32.toInt_inj.mp
      rw [nI_toInt (by omega)]
      omega
  · exact Or.inl h
theorem zz_clong (x : Int64) : x < 0 ∨ ∃ k, k < 9223372036854775808 ∧ x = lN k := by
  by_cases h : x < 0
  · exact Or.inl h
  · rw [Int64.lt_iff_toInt_lt] at h
    have e0 : (0 : Int64).toInt = 0 := by decide
    rw [e0] at h
    have h2 := Int64.toInt_lt x
    refine Or.inr ⟨x.toInt.toNat, by omega, ?_⟩
    apply Int64.toInt_inj.mp
    rw [pk_lT (by omega)]
    omega
/-- a jug is added -/
theorem lw_jug {jc : Nat} {sz fl : Nat → Nat} {fS fF fW : Nat → Int32} (hJ : jg_ok jc sz fl fS fF) (hF0 : ∀ j, jc ≤ j → j < 4 → fF j = 0) (hW : ∀ i, i < jc → fW i = -1 ∨ ¬ fW i < 0) {x y : Int32} (h : ¬ 4 ≤ nI jc ∧ ¬ x < 1 ∧ ¬ 9 < x ∧ ¬ y < 0 ∧ y ≤ x) : ∃ sz2 fl2, jg_ok (jc + 1) sz2 fl2 (upd fS jc x) (upd fF jc y) ∧ (∀ j, jc + 1 ≤ j → j < 4 → upd fF jc y j = 0) ∧ (∀ i, i < jc + 1 → upd fW jc (-1) i = -1 ∨ ¬ upd fW jc (-1) i < 0) := by
  obtain ⟨h0, h1, h2, h3, h4⟩ := h
  have hc := hJ.1
  have hc4 : jc < 4 := zz_ltc (n := 4) h0 (by omega)
  rw [Int32.lt_iff_toInt_lt] at h1 h2 h3
  rw [Int32.le_iff_toInt_le] at h4
  have e0 : (0 : Int32).toInt = 0 := by decide
  have e1 : (1 : Int32).toInt = 1 := by decide
  have e9 : (9 : Int32).toInt = 9 := by decide
  rw [e1] at h1
  rw [e9] at h2
  rw [e0] at h3
  have ex : x = nI x.toInt.toNat := by
    apply Int32.toInt_inj.mp
    rw [nI_toInt (by omega)]
    omega
  have ey : y = nI y.toInt.toNat := by
    apply Int32.toInt_inj.mp
    rw [nI_toInt (by omega)]
    omega
  refine ⟨va_up sz jc x.toInt.toNat, va_up fl jc y.toInt.toNat, ⟨by omega, fun i hi => ?_⟩, fun j hj1 hj2 => ?_, fun i hi => ?_⟩
  · by_cases q : i = jc
    · subst q
      simp only [pk_us, va_up, if_pos]
      exact ⟨ex, by omega, by omega, ey, by omega⟩
    · rw [pk_un q, pk_un q]
      simp only [va_up, if_neg q]
      exact hJ.2 i (by omega)
  · rw [pk_un (by omega)]; exact hF0 j (by omega) hj2
  · by_cases q : i = jc
    · subst q; rw [pk_us]; exact Or.inl rfl
    · rw [pk_un q]; exact hW i (by omega)
/-- a goal is set -/
theorem lw_goal {jc : Nat} {fW : Nat → Int32} (hW : ∀ i, i < jc → fW i = -1 ∨ ¬ fW i < 0) (k v : Int32) (h : ¬ v < (-1)) : ∀ i, i < jc → upd fW k.toNatClampNeg v i = -1 ∨ ¬ upd fW k.toNatClampNeg v i < 0 := by
  intro i hi
  by_cases q : i = k.toNatClampNeg
  · subst q
    rw [pk_us]
    by_cases z : v = -1
    · exact Or.inl z
    · refine Or.inr (fun y => z ?_)
      rw [Int32.lt_iff_toInt_lt] at h y
      have e1 : (-1 : Int32).toInt = -1 := by decide
      have e0 : (0 : Int32).toInt = 0 := by decide
      rw [e1] at h
      rw [e0] at y
      apply Int32.toInt_inj.mp
      rw [e1]
      omega
  · rw [pk_un q]; exact hW i hi
theorem lw_pow {jc n : Nat} (hc : jc ≤ 4) (hn : n = 512 ∨ n = 1000 ∨ n = 10000) (h : n < 10 ^ jc) : (10 ^ jc = 1000 ∧ n = 512) ∨ (10 ^ jc = 10000 ∧ n ≤ 1000) := by
  rcases jg_casec hc with rfl | rfl | rfl | rfl | rfl <;> omega
theorem wg_few {k : Nat} (h : k < 3) : wg k 1 = -1 := by
  unfold wg
  rw [if_neg (by decide), if_pos rfl, if_pos h]
theorem wg_other {k : Nat} {y : Int32} (h0 : ¬ y = 0) (h1 : ¬ y = 1) : wg k y = -2 := by
  unfold wg
  rw [if_neg h0, if_neg h1]
/-- step, where nothing is found yet -/
theorem lw_st1 {k cn y1 y2 b0 : Int32} {P1 P2 : Prop} [Decidable P1] [Decidable P2] (h : cn = 0) : (if b0 = 0 then (if ¬ k < 0 ∧ ¬ cn ≤ k ∧ P1 ∧ P2 then y1 else (-2)) else (if ¬ k < 0 ∧ ¬ cn ≤ k ∧ P1 ∧ P2 then y2 else (-2))) = -2 := by
  have hn : ¬ (¬ k < 0 ∧ ¬ cn ≤ k ∧ P1 ∧ P2) := fun z => z.2.1 (by rw [h]; exact zz_nlt z.1)
  rw [if_neg hn, if_neg hn]
  split <;> rfl
theorem lw_st2 {k y1 y2 b0 : Int32} {sp : Nat} (h : sp = 0) : (if ¬ k < 0 ∧ k < nI sp then (if b0 = 0 then y1 else y2) else (-2)) = -2 := if_neg (fun z => z.1 (by
  have h2 := z.2
  rw [h] at h2
  exact h2))
