/-! PURE: the reference's crossing. -/
def mo_phi (x : Nat) : Nat := 2 * (x % 256) + x / 256
theorem mo_phi_inj : ∀ x, x < 512 → ∀ y, y < 512 → mo_phi x = mo_phi y → x = y := by
  intro x hx y hy h
  unfold mo_phi at h
  omega
theorem mo_phi_lt {x : Nat} (h : x < 512) : mo_phi x < 512 := by unfold mo_phi; omega
theorem rv_tgt {on z : Nat} (ho : on = 0 ∨ on = 256) (hz : z < 256) : (on ||| z) = on + z := by
  rcases ho with rfl | rfl
  · rw [Nat.zero_or, Nat.zero_add]
  · exact (Nat.two_pow_add_eq_or_of_lt (i := 8) (by omega : z < 2 ^ 8) 1).symm
theorem rv_xor_lt {tn a b : Nat} (ha : a < 2 ^ tn) (hb : b < 2 ^ tn) : a ^^^ b < 2 ^ tn := Nat.xor_lt_two_pow ha hb
def rv_chk (b t : Nat) : Bool := !(rv_wo t b == 0) || (decide (t ≤ b) && ((t == b) || (decide (t < rv_nx b t) && (rv_wo (rv_nx b t) b == 0) && (List.range (rv_nx b t - t - 1)).all (fun d => !(rv_wo (t + 1 + d) b == 0)))))
theorem rv_chk_all : ((List.range 256).all fun b => (List.range 256).all fun t => rv_chk b t) = true := by decide +kernel
theorem rv_chk_ok (b : Nat) (hb : b < 256) (t : Nat) (ht : t < 256) : rv_chk b t = true := List.all_eq_true.mp (List.all_eq_true.mp rv_chk_all b (List.mem_range.mpr hb)) t (List.mem_range.mpr ht)
theorem rv_sub_ok (b : Nat) (hb : b < 256) (t : Nat) (ht : t < 256) (h : rv_wo t b = 0) : t ≤ b ∧ (t ≠ b → t < rv_nx b t ∧ rv_wo (rv_nx b t) b = 0 ∧ ∀ d, d < rv_nx b t - t - 1 → ¬ rv_wo (t + 1 + d) b = 0) := by
  have h1 := rv_chk_ok b hb t ht
  unfold rv_chk at h1
  simp only [h, Bool.or_eq_true, Bool.and_eq_true, decide_eq_true_eq, beq_iff_eq, List.all_eq_true, List.mem_range, Bool.not_eq_true', beq_eq_false_iff_ne, ne_eq, not_true_eq_false, false_or] at h1
  refine ⟨h1.1, fun hne => ?_⟩
  rcases h1.2 with q | q
  · exact absurd q hne
  · exact ⟨q.1.1, q.1.2, q.2⟩
def mo_go (nw : Nat → Nat) (bt x bank on : Nat) : Nat → Nat → bS → bS
  | 0, _, st => st
  | f + 1, t, st => mo_go nw bt x bank on f (t + 1) (if rv_wo t bank = 0 ∧ rv_pop t ≤ bt ∧ rv_stay nw (rv_wo bank t) then bfs_mt st x (on ||| (x % 256 ^^^ t), t) else st)
theorem mo_go_skip {nw : Nat → Nat} {bt x bank on : Nat} : ∀ (k f t : Nat) (st : bS), (∀ d, d < k → ¬ rv_wo (t + d) bank = 0) → mo_go nw bt x bank on (k + f) t st = mo_go nw bt x bank on f (t + k) st := by
  intro k
  induction k with
  | zero => intro f t st _; rw [Nat.zero_add, Nat.add_zero]
  | succ k ih =>
    intro f t st h
    rw [show k + 1 + f = (k + f) + 1 by omega, mo_go, if_neg (fun z => h 0 (by omega) z.1), ih f (t + 1) st (fun d hd => by rw [show t + 1 + d = t + (d + 1) by omega]; exact h (d + 1) (by omega)), show t + 1 + k = t + (k + 1) by omega]
theorem mo_go_rv {nw : Nat → Nat} {bt x bank on B : Nat} (hb : bank ≤ B) (hB : B < 256) : ∀ (F t f : Nat) (st : bS), t + f = B + 1 → rv_wo t bank = 0 → t ≤ B → bank < t + F → mo_go nw bt x bank on f t st = rv_go nw bt x bank on F t st := by
  intro F
  induction F with
  | zero =>
    intro t f st h1 h2 h3 h4
    have := (rv_sub_ok bank (by omega) t (by omega) h2).1
    omega
  | succ F ih =>
    intro t f st h1 h2 h3 h4
    obtain ⟨h5, h6⟩ := rv_sub_ok bank (by omega) t (by omega) h2
    obtain ⟨g, rfl⟩ : ∃ g, f = g + 1 := ⟨f - 1, by omega⟩
    rw [mo_go, rv_go]
    have e : (if rv_wo t bank = 0 ∧ rv_pop t ≤ bt ∧ rv_stay nw (rv_wo bank t) then bfs_mt st x (on ||| (x % 256 ^^^ t), t) else st) = (if rv_pop t ≤ bt ∧ rv_stay nw (rv_wo bank t) then bfs_mt st x (on ||| (x % 256 ^^^ t), t) else st) := by
      by_cases q : rv_pop t ≤ bt ∧ rv_stay nw (rv_wo bank t)
      · rw [if_pos q, if_pos ⟨h2, q⟩]
      · rw [if_neg q, if_neg (fun z => q z.2)]
    rw [e]
    by_cases q : t = bank
    · rw [if_pos q]
      have h7 := mo_go_skip (nw := nw) (bt := bt) (x := x) (on := on) g 0 (t + 1) (if rv_pop t ≤ bt ∧ rv_stay nw (rv_wo bank t) then bfs_mt st x (on ||| (x % 256 ^^^ t), t) else st) (fun d hd z => by
        have := (rv_sub_ok bank (by omega) (t + 1 + d) (by omega) z).1
        omega)
      rw [Nat.add_zero] at h7
      rw [h7]
      rfl
    · rw [if_neg q]
      obtain ⟨h7, h8, h9⟩ := h6 q
      have h10 := (rv_sub_ok bank (by omega) (rv_nx bank t) (rv_nx_lt (by omega)) h8).1
      rw [← ih (rv_nx bank t) (B + 1 - rv_nx bank t) _ (by omega) h8 (by omega) (by omega)]
      rw [show g = (rv_nx bank t - t - 1) + (B + 1 - rv_nx bank t) by omega, mo_go_skip _ _ _ _ h9, show t + 1 + (rv_nx bank t - t - 1) = rv_nx bank t by omega]
theorem mo_next {tn bt x : Nat} {nw : Nat → Nat} (ht : tn ≤ 8) (hx : x % 256 < 2 ^ tn) (st : bS) : mo_go nw bt x (rv_bank tn x) (rv_on x) (2 ^ tn) 0 st = rv_next tn nw bt x st := by
  have hp : 2 ^ tn ≤ 2 ^ 8 := Nat.pow_le_pow_right (by decide) ht
  have hp0 : 0 < 2 ^ tn := Nat.two_pow_pos tn
  have hb : rv_bank tn x ≤ 2 ^ tn - 1 := by
    unfold rv_bank
    split
    · exact Nat.and_le_left
    · omega
  exact mo_go_rv (B := 2 ^ tn - 1) hb (by omega) 256 0 (2 ^ tn) st (by omega) (by unfold rv_wo; exact Nat.zero_and _) (by omega) (by omega)
/-- the count of bits, a bit at a time -/
def mo_cnt (k : Nat) : Nat → Nat
  | 0 => 0
  | i + 1 => mo_cnt k i + k / 2 ^ i % 2
theorem mo_cnt_pop (k : Nat) : mo_cnt k 8 = rv_pop k := by
  simp only [mo_cnt, rv_pop, Nat.zero_add, Nat.pow_zero, Nat.div_one]
theorem mo_stay {tn k : Nat} {nw : Nat → Nat} (ht : tn ≤ 8) (hk : k < 2 ^ tn) : (∀ i, i < tn → k / 2 ^ i % 2 = 1 → nw i &&& k = 0) ↔ rv_stay nw k := by
  constructor
  · intro h i hi h1
    rcases Nat.lt_or_ge i tn with q | q
    · exact h i q h1
    · have : 2 ^ tn ≤ 2 ^ i := Nat.pow_le_pow_right (by decide) q
      rw [Nat.div_eq_of_lt (by omega)] at h1
      exact absurd h1 (by decide)
  · intro h i hi h1
    exact h i (by omega) h1
theorem rv_wo_lt2 {tn b t : Nat} (hb : b < 2 ^ tn) : rv_wo b t < 2 ^ tn := Nat.lt_of_le_of_lt Nat.and_le_left hb
/-! the text -/
theorem rv_lett (x : Int32) : (¬ x - 97 < 0 ∧ ¬ 8 ≤ x - 97) ↔ (¬ x < 97 ∧ ¬ 104 < x) := by
  rw [Int32.lt_iff_toInt_lt, Int32.le_iff_toInt_le, Int32.lt_iff_toInt_lt, Int32.lt_iff_toInt_lt, Int32.toInt_sub]
  have h1 := Int32.toInt_lt x
  have h2 := Int32.le_toInt x
  have e0 : (0 : Int32).toInt = 0 := by decide
  have e8 : (8 : Int32).toInt = 8 := by decide
  have e9 : (97 : Int32).toInt = 97 := by decide
  have e4 : (104 : Int32).toInt = 104 := by decide
  rw [e0, e8, e9, e4, Int.bmod_def]
  constructor
  · intro h
    split at h <;> omega
  · intro h
    split <;> omega
theorem rv_lok_iff (x : Int32) : rv_lok x ↔ (¬ x < 97 ∧ ¬ 104 < x) := by
  rw [← rv_lett]
  constructor
  · intro h; exact ⟨h.1, zz_nle h.2⟩
  · intro h
    refine ⟨h.1, ?_⟩
    have := h.2
    rw [Int32.le_iff_toInt_le] at this
    rw [Int32.lt_iff_toInt_lt]
    omega
theorem rv_thing_in {fL : Nat → Int32} {x : Int32} (h1 : ¬ x < 97) (h2 : ¬ 104 < x) : rv_thing fL x = fL (x - 97).toNatClampNeg := if_pos ((rv_lok_iff x).mpr ⟨h1, h2⟩)
theorem rv_thing_out {fL : Nat → Int32} {x : Int32} (h : x < 97 ∨ 104 < x) : rv_thing fL x = -1 := if_neg (fun z => h.elim ((rv_lok_iff x).mp z).1 ((rv_lok_iff x).mp z).2)
/-- a table of things: -1, or one of the first t -/
def rt_ok (fL : Nat → Int32) (t : Nat) : Prop := ∀ j, j < 8 → fL j = -1 ∨ ∃ i, i < t ∧ fL j = nI i
theorem rt_ok_thing {fL : Nat → Int32} {t : Nat} (h : rt_ok fL t) (x : Int32) : rv_thing fL x = -1 ∨ ∃ i, i < t ∧ rv_thing fL x = nI i := by
  unfold rv_thing
  split
  · rename_i q
    obtain ⟨j, hj, e⟩ := vp_in_of (rv_vp8l q.1 q.2) (by decide)
    rw [e, nI_clamp (by omega)]
    exact h j hj
  · exact Or.inl rfl
theorem rt_ok_neg {fL : Nat → Int32} {t : Nat} (h : rt_ok fL t) (ht : t ≤ 100) {x : Int32} (hx : rv_thing fL x < 0) : rv_thing fL x = -1 := by
  rcases rt_ok_thing h x with q | ⟨i, q1, q2⟩
  · exact q
  · rw [q2] at hx; exact absurd hx (nI_pos (by omega))
theorem rt_ok_upd {fL : Nat → Int32} {t i : Nat} (h : rt_ok fL t) : rt_ok (upd fL i (nI t)) (t + 1) := by
  intro j hj
  by_cases e : j = i
  · subst e; rw [pk_us]; exact Or.inr ⟨t, by omega, rfl⟩
  · rw [pk_un e]
    rcases h j hj with q | ⟨k, q1, q2⟩
    · exact Or.inl q
    · exact Or.inr ⟨k, by omega, q2⟩
theorem rt_addok_iff {fL : Nat → Int32} {t : Nat} (h : rt_ok fL t) (ht : t ≤ 100) (x : Int32) : rv_addok fL x ↔ (¬ x < 97 ∧ ¬ 104 < x ∧ rv_thing fL x < 0) := by
  constructor
  · intro ⟨h1, h2, h3⟩
    have q := (rv_lett x).mp ⟨h1, h2⟩
    refine ⟨q.1, q.2, ?_⟩
    rw [rv_thing_in q.1 q.2, h3]
    decide
  · intro ⟨h1, h2, h3⟩
    have q := (rv_lett x).mpr ⟨h1, h2⟩
    refine ⟨q.1, q.2, ?_⟩
    exact (rv_thing_in h1 h2).symm.trans (rt_ok_neg h ht h3)
theorem rt_kok_iff {fL : Nat → Int32} {t : Nat} (h : rt_ok fL t) (ht : t ≤ 100) {x y : Int32} (hx : ¬ rv_thing fL x < 0) : rv_kok t (rv_thing fL x) (rv_thing fL y) ↔ (¬ rv_thing fL y < 0 ∧ ¬ rv_thing fL x = rv_thing fL y) := by
  constructor
  · intro ⟨_, _, h3, _, h5⟩; exact ⟨h3, h5⟩
  · intro ⟨h3, h5⟩
    have hm : (-1 : Int32) < 0 := by decide
    rcases rt_ok_thing h x with q | ⟨i, q1, q2⟩
    · rw [q] at hx; exact absurd hm hx
    · rcases rt_ok_thing h y with q | ⟨j, p1, p2⟩
      · rw [q] at h3; exact absurd hm h3
      · refine ⟨hx, ?_, h3, ?_, h5⟩
        · rw [q2]; exact nI_ge q1 (by omega)
        · rw [p2]; exact nI_ge p1 (by omega)
theorem rt_vp8 {fL : Nat → Int32} {t : Nat} (h : rt_ok fL t) (ht : t ≤ 8) {x : Int32} (hx : ¬ rv_thing fL x < 0) : vp_in (rv_thing fL x) 8 := by
  rcases rt_ok_thing h x with q | ⟨i, q1, q2⟩
  · rw [q] at hx; exact absurd (by decide) hx
  · rw [q2]; exact vp_in_nI (by omega) (by decide)
theorem rt_neg1 {fL : Nat → Int32} {t : Nat} (h : rt_ok fL t) (ht : t ≤ 100) {x : Int32} : rv_thing fL x = -1 ↔ rv_thing fL x < 0 := ⟨fun z => by rw [z]; decide, rt_ok_neg h ht⟩
theorem rt_things_ok (U : Nat → Int32) : ∀ (f p : Nat) (S : (Nat → Int32) × Nat), rt_ok S.1 S.2 → rt_ok (rt_things U f p S).2.1 (rt_things U f p S).2.2 := by
  intro f
  induction f with
  | zero => intro p S h; exact h
  | succ f ih =>
    intro p S h
    unfold rt_things
    split
    · exact ih (p + 1) _ (rt_ok_upd h)
    · exact h
theorem rt_u_32 {fU : Nat → Int32} {k j : Nat} (h : k ≤ j) : rt_u fU k j = -1 := if_neg (by omega)
/-- what the reference's parse says, over clean tables -/
theorem mo_cr {U : Nat → Int32} {k : Nat} {r bo : Int32} {t : Nat} {fN : Nat → Int32} (h : ∃ fL0 fN0 : Nat → Int32, (∀ j, j < 8 → fL0 j = -1) ∧ (∀ j, j < 8 → fN0 j = 0) ∧ t = (rt_things U 100 0 (fL0, 0)).2.2 ∧ ((rt_things U 100 0 (fL0, 0)).1 = 0 → r = 0) ∧ (¬ (rt_things U 100 0 (fL0, 0)).1 = 0 → r = (rt_pairs U k (rt_things U 100 0 (fL0, 0)).2.1 t 100 (rt_things U 100 0 (fL0, 0)).1 (fN0, 0)).1 ∧ fN = (rt_pairs U k (rt_things U 100 0 (fL0, 0)).2.1 t 100 (rt_things U 100 0 (fL0, 0)).1 (fN0, 0)).2.1 ∧ (r = -1 → bo = (rt_pairs U k (rt_things U 100 0 (fL0, 0)).2.1 t 100 (rt_things U 100 0 (fL0, 0)).1 (fN0, 0)).2.2))) : r = (cr_R U k).1 ∧ t = (cr_T U).2.2 ∧ ((cr_R U k).1 = -1 → (∀ j, j < 8 → fN j = nI (cr_nw U k j) ∧ cr_nw U k j < 256) ∧ bo = nI (cr_bt U k) ∧ cr_bt U k ≤ 3) := by
  obtain ⟨fL0, fN0, h1, h2, h4, h5, h6⟩ := h
  obtain ⟨e1, e2, e3⟩ := rt_things_ext U 100 0 fL0 (fun _ => -1) 0 h1
  have hc := cr_ok U k
  have et : t = (cr_T U).2.2 := h4.trans e2
  by_cases q : (cr_T U).1 = 0
  · have e : cr_R U k = (0, fun _ => 0, 0) := by unfold cr_R; rw [if_pos q]
    refine ⟨?_, et, fun z => ?_⟩
    · rw [h5 (e1.trans q), e]
    · rw [e] at z; exact absurd z (by decide)
  · have h7 := h6 (fun z => q (e1.symm.trans z))
    have x := rt_pairs_ext U k e3 (cr_t_le U) 100 (cr_T U).1 fN0 (fun _ => 0) 0 h2
    have e : cr_R U k = rt_pairs U k (cr_T U).2.1 (cr_T U).2.2 100 (cr_T U).1 (fun _ => 0, 0) := by unfold cr_R; rw [if_neg q]
    rw [e1, et] at h7
    have er : r = (cr_R U k).1 := by rw [e]; exact h7.1.trans x.1
    refine ⟨er, et, fun z => ⟨fun j hj => ?_, ?_, (hc.2 z).1⟩⟩
    · have e9 : fN j = (cr_R U k).2.1 j := by rw [e, h7.2.1]; exact x.2.2 j hj
      rw [e9]
      exact hc.1 j hj
    · have e9 : bo = (cr_R U k).2.2 := by rw [e]; exact (h7.2.2 (er.trans z)).trans x.2.1
      rw [e9]
      exact (hc.2 z).2
/-! coins: kind 0 tries while 3 ^ i < n, kind 1 while (3 ^ i - 3) / 2 < n -/
def mo_w0 (n : Nat) : Nat → Nat → Nat
  | 0, i => i
  | f + 1, i => if 3 ^ i < n then mo_w0 n f (i + 1) else i
def mo_w1 (n : Nat) : Nat → Nat → Nat
  | 0, i => i
  | f + 1, i => if (nI (3 ^ i) - 3) / 2 < nI n then mo_w1 n f (i + 1) else i
theorem mo_w0_ok : ∀ n : Nat, n < 14 → nI (mo_w0 n 5 0) = wg n 0 ∧ ¬ 3 ^ 5 < n := by decide +kernel
theorem mo_w1_ok : ∀ n : Nat, n < 14 → 3 ≤ n → nI (mo_w1 n 5 0) = wg n 1 ∧ ¬ (nI (3 ^ 5) - 3) / 2 < nI n := by decide +kernel
/-! towers -/
theorem tw_FK : ∀ n : Nat, n < 41 → 1 ≤ n → tw_F n = 2 * tw_F (tw_K n) + (2 ^ (n - tw_K n) - 1) := by decide +kernel
def mo_sp (a b : Int32) (g : Int32) : Nat → Int32
  | 0 => -1
  | q + 1 => if ¬ nI q = a ∧ ¬ nI q = b ∧ (mo_sp a b g q < 0 ∨ ¬ g = 0) then nI q else mo_sp a b g q
theorem mo_sp_ok : ∀ a : Nat, a < 4 → ∀ b : Nat, b < 4 → a ≠ b → mo_sp (nI a) (nI b) 0 4 = nI (tw_les a b) ∧ mo_sp (nI a) (nI b) 1 4 = nI (6 - a - b - tw_les a b) ∧ tw_les a b < 4 ∧ tw_les a b ≠ a ∧ tw_les a b ≠ b := by decide +kernel
def mo_pick (w : Int32) (u : Int32 × Int32 × Int32) : Int32 := if w = 0 then u.1 else if w = 1 then u.2.1 else u.2.2
theorem rt_pairs_val (U : Nat → Int32) (k : Nat) (fL : Nat → Int32) (t : Nat) : ∀ (f q : Nat) (S : (Nat → Int32) × Int32), (rt_pairs U k fL t f q S).1 = -1 ∨ ∃ j, j < q + 3 * f + 3 ∧ (rt_pairs U k fL t f q S).1 = nI j := by
  intro f
  induction f with
  | zero => intro q S; exact Or.inr ⟨q, by omega, rfl⟩
  | succ f ih =>
    intro q S
    rw [rt_pairs]
    split
    · split
      · split
        · exact Or.inl rfl
        · exact Or.inr ⟨q + 2, by omega, rfl⟩
      · split
        · exact Or.inr ⟨q + 1, by omega, rfl⟩
        · split
          · rcases ih (q + 3) (rv_keep S.1 (rv_thing fL (U (q + 1))) (rv_thing fL (U (q + 2))), S.2) with h | ⟨j, h1, h2⟩
            · exact Or.inl h
            · exact Or.inr ⟨j, by omega, h2⟩
          · exact Or.inr ⟨q + 2, by omega, rfl⟩
    · exact Or.inr ⟨q, by omega, rfl⟩
theorem cr_R_or (U : Nat → Int32) (k : Nat) : (cr_R U k).1 = -1 ∨ ∃ j, j < 1000 ∧ (cr_R U k).1 = nI j := by
  by_cases q : (cr_T U).1 = 0
  · refine Or.inr ⟨0, by decide, ?_⟩
    unfold cr_R
    rw [if_pos q]
    rfl
  · have hp := cr_p_le U
    unfold cr_R
    rw [if_neg q]
    rcases rt_pairs_val U k (cr_T U).2.1 (cr_T U).2.2 100 (cr_T U).1 (fun _ => 0, 0) with h | ⟨j, h1, h2⟩
    · exact Or.inl h
    · exact Or.inr ⟨j, by omega, h2⟩
theorem rv_bank_le {tn x : Nat} (hx : x % 256 < 2 ^ tn) : rv_bank tn x ≤ 2 ^ tn - 1 := by
  unfold rv_bank
  split
  · exact Nat.and_le_left
  · omega
theorem mo_phi_div {x : Nat} (h : x < 512) : mo_phi x / 2 = x % 256 := by unfold mo_phi; omega
theorem mo_phi_mod {x : Nat} (h : x < 512) : mo_phi x % 2 = x / 256 := by unfold mo_phi; omega
