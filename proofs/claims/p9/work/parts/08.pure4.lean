/-! PURE: the text of a crossing, read over clean tables. -/
theorem rv_addok_ext {fL gL : Nat → Int32} (h : ∀ j, j < 8 → fL j = gL j) (x : Int32) : rv_addok fL x ↔ rv_addok gL x := by
  constructor
  · intro ⟨h1, h2, h3⟩
    obtain ⟨j, hj, e⟩ := vp_in_of (rv_vp8 h1 h2) (by decide)
    refine ⟨h1, h2, ?_⟩
    rw [e, nI_clamp (by omega)] at h3 ⊢
    rw [← h j hj]; exact h3
  · intro ⟨h1, h2, h3⟩
    obtain ⟨j, hj, e⟩ := vp_in_of (rv_vp8 h1 h2) (by decide)
    refine ⟨h1, h2, ?_⟩
    rw [e, nI_clamp (by omega)] at h3 ⊢
    rw [h j hj]; exact h3
theorem upd_ext {f g : Nat → Int32} (h : ∀ j, j < 8 → f j = g j) (i : Nat) (v : Int32) : ∀ j, j < 8 → upd f i v j = upd g i v j := by
  intro j hj
  by_cases e : j = i
  · subst e; rw [pk_us, pk_us]
  · rw [pk_un e, pk_un e]; exact h j hj
theorem rt_things_ext (U : Nat → Int32) : ∀ (f p : Nat) (fL gL : Nat → Int32) (t : Nat), (∀ j, j < 8 → fL j = gL j) → (rt_things U f p (fL, t)).1 = (rt_things U f p (gL, t)).1 ∧ (rt_things U f p (fL, t)).2.2 = (rt_things U f p (gL, t)).2.2 ∧ ∀ j, j < 8 → (rt_things U f p (fL, t)).2.1 j = (rt_things U f p (gL, t)).2.1 j := by
  intro f
  induction f with
  | zero => intro p fL gL t h; exact ⟨rfl, rfl, h⟩
  | succ f ih =>
    intro p fL gL t h
    by_cases q : rv_addok fL (U p)
    · rw [rt_things_pos (S := (fL, t)) q, rt_things_pos (S := (gL, t)) ((rv_addok_ext h _).mp q)]
      exact ih (p + 1) _ _ (t + 1) (upd_ext h _ _)
    · rw [rt_things_neg (S := (fL, t)) q, rt_things_neg (S := (gL, t)) (fun z => q ((rv_addok_ext h _).mpr z))]
      exact ⟨rfl, rfl, h⟩
theorem rv_thing_ext {fL gL : Nat → Int32} (h : ∀ j, j < 8 → fL j = gL j) (x : Int32) : rv_thing fL x = rv_thing gL x := by
  unfold rv_thing
  by_cases q : rv_lok x
  · rw [if_pos q, if_pos q]
    obtain ⟨j, hj, e⟩ := vp_in_of (rv_vp8l q.1 q.2) (by decide)
    rw [e, nI_clamp (by omega)]
    exact h j hj
  · rw [if_neg q, if_neg q]
theorem rv_kok_lt {t : Nat} (ht : t ≤ 8) {a b : Int32} (h : rv_kok t a b) : ∃ i j : Nat, i < 8 ∧ j < 8 ∧ i ≠ j ∧ a = nI i ∧ b = nI j := by
  obtain ⟨h1, h2, h3, h4, h5⟩ := h
  obtain ⟨i, hi, rfl⟩ := vp_in_of (rv_vpt ht h1 h2) (by decide)
  obtain ⟨j, hj, rfl⟩ := vp_in_of (rv_vpt ht h3 h4) (by decide)
  exact ⟨i, j, hi, hj, fun z => h5 (by rw [z]), rfl, rfl⟩
theorem rv_keep_ext {fN gN : Nat → Int32} (h : ∀ j, j < 8 → fN j = gN j) {t : Nat} (ht : t ≤ 8) {a b : Int32} (hk : rv_kok t a b) : ∀ j, j < 8 → rv_keep fN a b j = rv_keep gN a b j := by
  obtain ⟨i, k, hi, hk2, hne, rfl, rfl⟩ := rv_kok_lt ht hk
  unfold rv_keep
  rw [nI_clamp (show i < 2 ^ 31 by omega), nI_clamp (show k < 2 ^ 31 by omega), h i hi]
  have e := upd_ext h i (gN i ||| (1 <<< (nI k &&& 31)))
  rw [e k hk2]
  exact upd_ext e k _
theorem rt_pairs_ext (U : Nat → Int32) (k : Nat) {fL gL : Nat → Int32} (hL : ∀ j, j < 8 → fL j = gL j) {t : Nat} (ht : t ≤ 8) : ∀ (f p : Nat) (fN gN : Nat → Int32) (b : Int32), (∀ j, j < 8 → fN j = gN j) → (rt_pairs U k fL t f p (fN, b)).1 = (rt_pairs U k gL t f p (gN, b)).1 ∧ (rt_pairs U k fL t f p (fN, b)).2.2 = (rt_pairs U k gL t f p (gN, b)).2.2 ∧ ∀ j, j < 8 → (rt_pairs U k fL t f p (fN, b)).2.1 j = (rt_pairs U k gL t f p (gN, b)).2.1 j := by
  intro f
  induction f with
  | zero => intro p fN gN b h; exact ⟨rfl, rfl, h⟩
  | succ f ih =>
    intro p fN gN b h
    rw [rt_pairs, rt_pairs, rv_thing_ext hL, rv_thing_ext hL]
    split
    · split
      · exact ⟨rfl, rfl, h⟩
      · split
        · exact ⟨rfl, rfl, h⟩
        · split
          · rename_i hk
            exact ih (p + 3) _ _ b (rv_keep_ext h ht hk)
          · exact ⟨rfl, rfl, h⟩
    · exact ⟨rfl, rfl, h⟩
/-- masks of eight things -/
def rv_mk (fN : Nat → Int32) : Prop := ∀ j, j < 8 → fN j = nI (fN j).toBitVec.toNat ∧ (fN j).toBitVec.toNat < 256
theorem rv_mk1 {n : Nat} (h : n < 256) : nI n = nI (nI n).toBitVec.toNat ∧ (nI n).toBitVec.toNat < 256 := by
  rw [pk_tn (by omega)]
  exact ⟨rfl, h⟩
theorem rv_sh1 : ∀ j : Nat, j < 8 → (1 : Int32) <<< (nI j &&& 31) = nI (2 ^ j) ∧ 2 ^ j < 2 ^ 8 := by decide +kernel
theorem rv_mk_or {x : Int32} {j : Nat} (hj : j < 8) (h : x = nI x.toBitVec.toNat ∧ x.toBitVec.toNat < 256) : (x ||| (1 <<< (nI j &&& 31))) = nI (x ||| (1 <<< (nI j &&& 31))).toBitVec.toNat ∧ (x ||| (1 <<< (nI j &&& 31))).toBitVec.toNat < 256 := by
  have h2 := rv_sh1 j hj
  have e : x ||| (1 <<< (nI j &&& 31)) = nI (x.toBitVec.toNat ||| 2 ^ j) := by
    rw [h2.1]
    conv => lhs; rw [h.1]
    exact nI_or _ _
  rw [e]
  exact rv_mk1 (Nat.or_lt_two_pow (n := 8) h.2 h2.2)
theorem rv_keep_mk {fN : Nat → Int32} (h : rv_mk fN) {t : Nat} (ht : t ≤ 8) {a b : Int32} (hk : rv_kok t a b) : rv_mk (rv_keep fN a b) := by
  obtain ⟨i, k, hi, hk2, hne, rfl, rfl⟩ := rv_kok_lt ht hk
  intro j hj
  unfold rv_keep
  rw [nI_clamp (show i < 2 ^ 31 by omega), nI_clamp (show k < 2 ^ 31 by omega)]
  have h1 : rv_mk (upd fN i (fN i ||| (1 <<< (nI k &&& 31)))) := by
    intro q hq
    by_cases e : q = i
    · subst e; rw [pk_us]; exact rv_mk_or hk2 (h q hq)
    · rw [pk_un e]; exact h q hq
  by_cases e : j = k
  · subst e; rw [pk_us]; exact rv_mk_or hi (h1 j hj)
  · rw [pk_un e]; exact h1 j hj
theorem rt_boat {x : Int32} (h1 : ¬ x < 49) (h2 : x ≤ 51) : ∃ b : Nat, b ≤ 3 ∧ x - 48 = nI b := by
  rw [Int32.lt_iff_toInt_lt] at h1
  rw [Int32.le_iff_toInt_le] at h2
  have e1 : (49 : Int32).toInt = 49 := by decide
  have e2 : (51 : Int32).toInt = 51 := by decide
  rw [e1] at h1
  rw [e2] at h2
  have hx : x = nI x.toInt.toNat := by
    apply Int32.toInt_inj.mp
    rw [nI_toInt (by omega)]
    omega
  refine ⟨x.toInt.toNat - 48, by omega, ?_⟩
  rw [hx]
  rw [show (nI x.toInt.toNat).toInt.toNat = x.toInt.toNat from by rw [← hx]]
  exact pk_sub (a := x.toInt.toNat) (b := 48) (by omega)
theorem rt_pairs_ok (U : Nat → Int32) (k : Nat) (fL : Nat → Int32) {t : Nat} (ht : t ≤ 8) : ∀ (f p : Nat) (fN : Nat → Int32) (b : Int32), p + 3 * f < 1000 → rv_mk fN → rv_mk (rt_pairs U k fL t f p (fN, b)).2.1 ∧ ((rt_pairs U k fL t f p (fN, b)).1 = -1 → ∃ bt : Nat, bt ≤ 3 ∧ (rt_pairs U k fL t f p (fN, b)).2.2 = nI bt) := by
  intro f
  induction f with
  | zero => intro p fN b hp h; exact ⟨h, fun z => absurd z (zz_nm1 (by omega))⟩
  | succ f ih =>
    intro p fN b hp h
    rw [rt_pairs]
    split
    · split
      · rename_i hb
        exact ⟨h, fun _ => rt_boat hb.1 hb.2⟩
      · split
        · exact ⟨h, fun z => absurd z (zz_nm1 (by omega))⟩
        · split
          · rename_i hk
            exact ih (p + 3) _ b (by omega) (rv_keep_mk h ht hk)
          · exact ⟨h, fun z => absurd z (zz_nm1 (by omega))⟩
    · exact ⟨h, fun z => absurd z (zz_nm1 (by omega))⟩
def cr_T (U : Nat → Int32) : Nat × (Nat → Int32) × Nat := rt_things U 100 0 (fun _ => -1, 0)
def cr_R (U : Nat → Int32) (k : Nat) : Int32 × (Nat → Int32) × Int32 := if (cr_T U).1 = 0 then (0, fun _ => 0, 0) else rt_pairs U k (cr_T U).2.1 (cr_T U).2.2 100 (cr_T U).1 (fun _ => 0, 0)
def cr_nw (U : Nat → Int32) (k j : Nat) : Nat := ((cr_R U k).2.1 j).toBitVec.toNat
def cr_bt (U : Nat → Int32) (k : Nat) : Nat := (cr_R U k).2.2.toInt.toNat
theorem cr_t_le (U : Nat → Int32) : (cr_T U).2.2 ≤ 8 := rt_things_le (fun _ _ => rfl)
theorem cr_p_le (U : Nat → Int32) : (cr_T U).1 ≤ 100 := by
  have := rt_things_p U 100 0 (fun _ => -1, 0)
  simpa [cr_T] using this
theorem cr_mk0 : rv_mk (fun _ => 0) := fun j _ => ⟨rfl, show (0 : Int32).toBitVec.toNat < 256 by decide⟩
theorem cr_ok (U : Nat → Int32) (k : Nat) : (∀ j, j < 8 → (cr_R U k).2.1 j = nI (cr_nw U k j) ∧ cr_nw U k j < 256) ∧ ((cr_R U k).1 = -1 → cr_bt U k ≤ 3 ∧ (cr_R U k).2.2 = nI (cr_bt U k)) := by
  by_cases q : (cr_T U).1 = 0
  · have e : cr_R U k = (0, fun _ => 0, 0) := by unfold cr_R; rw [if_pos q]
    refine ⟨fun j hj => ?_, fun z => ?_⟩
    · unfold cr_nw; rw [e]; exact cr_mk0 j hj
    · rw [e] at z; exact absurd z (by decide)
  · have e : cr_R U k = rt_pairs U k (cr_T U).2.1 (cr_T U).2.2 100 (cr_T U).1 (fun _ => 0, 0) := by unfold cr_R; rw [if_neg q]
    have hp := cr_p_le U
    have h := rt_pairs_ok U k (cr_T U).2.1 (cr_t_le U) 100 (cr_T U).1 (fun _ => 0) 0 (by omega) cr_mk0
    rw [← e] at h
    refine ⟨h.1, fun z => ?_⟩
    obtain ⟨bt, h1, h2⟩ := h.2 z
    have e2 : cr_bt U k = bt := by unfold cr_bt; rw [h2, nI_toInt (by omega)]; rfl
    rw [e2]
    exact ⟨h1, h2⟩
/-- what readInto says, over clean tables -/
theorem cr_of {U : Nat → Int32} {k : Nat} {r : Int32} {u : (Nat → Int32) × (Nat → Int32) × Nat × Int32} (h : ∃ fL0 fN0 : Nat → Int32, (∀ j, j < 8 → fL0 j = -1) ∧ (∀ j, j < 8 → fN0 j = 0) ∧ u.1 = (rt_things U 100 0 (fL0, 0)).2.1 ∧ u.2.2.1 = (rt_things U 100 0 (fL0, 0)).2.2 ∧ ((rt_things U 100 0 (fL0, 0)).1 = 0 → r = 0 ∧ u.2.1 = fN0 ∧ u.2.2.2 = 0) ∧ (¬ (rt_things U 100 0 (fL0, 0)).1 = 0 → (r, u.2.1, u.2.2.2) = rt_pairs U k (rt_things U 100 0 (fL0, 0)).2.1 (rt_things U 100 0 (fL0, 0)).2.2 100 (rt_things U 100 0 (fL0, 0)).1 (fN0, 0))) : r = (cr_R U k).1 ∧ u.2.2.1 = (cr_T U).2.2 ∧ (∀ j, j < 8 → u.2.1 j = nI (cr_nw U k j) ∧ cr_nw U k j < 256) ∧ u.2.2.2 = (cr_R U k).2.2 := by
  obtain ⟨fL0, fN0, h1, h2, h3, h4, h5, h6⟩ := h
  obtain ⟨e1, e2, e3⟩ := rt_things_ext U 100 0 fL0 (fun _ => -1) 0 h1
  have hc := (cr_ok U k).1
  refine ⟨?_, h4.trans e2, ?_, ?_⟩
  · by_cases q : (cr_T U).1 = 0
    · rw [(h5 (e1.trans q)).1]; unfold cr_R; rw [if_pos q]
    · have h7 := h6 (fun z => q (e1.symm.trans z))
      have h8 := congrArg Prod.fst h7
      have x := rt_pairs_ext U k e3 (cr_t_le U) 100 (cr_T U).1 fN0 (fun _ => 0) 0 h2
      rw [e1, e2] at h8
      unfold cr_R
      rw [if_neg q]
      exact h8.trans x.1
  · intro j hj
    have e : u.2.1 j = (cr_R U k).2.1 j := by
      by_cases q : (cr_T U).1 = 0
      · rw [(h5 (e1.trans q)).2.1, h2 j hj]; unfold cr_R; rw [if_pos q]
      · have h7 := h6 (fun z => q (e1.symm.trans z))
        have h8 := congrArg (fun z => z.2.1 j) h7
        have x := rt_pairs_ext U k e3 (cr_t_le U) 100 (cr_T U).1 fN0 (fun _ => 0) 0 h2
        rw [e1, e2] at h8
        unfold cr_R
        rw [if_neg q]
        exact h8.trans (x.2.2 j hj)
    rw [e]
    exact hc j hj
  · by_cases q : (cr_T U).1 = 0
    · rw [(h5 (e1.trans q)).2.2]; unfold cr_R; rw [if_pos q]
    · have h7 := h6 (fun z => q (e1.symm.trans z))
      have h8 := congrArg (fun z => z.2.2) h7
      have x := rt_pairs_ext U k e3 (cr_t_le U) 100 (cr_T U).1 fN0 (fun _ => 0) 0 h2
      rw [e1, e2] at h8
      unfold cr_R
      rw [if_neg q]
      exact h8.trans x.2.1
