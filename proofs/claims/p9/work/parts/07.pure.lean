/-! PURE: the search by breadth. A state of it: tr j = 0 where j isn't met, else 1 + (256 * the state before + the code of the step); q: what is met, in order. -/
def bfs_mt (st : (Nat → Nat) × List Nat) (b : Nat) (x : Nat × Nat) : (Nat → Nat) × List Nat := if st.1 x.1 = 0 then (va_up st.1 x.1 (1 + (b * 256 + x.2)), st.2 ++ [x.1]) else st
def bfs_bf (tr : Nat → Nat) (x : Nat) : Nat := (tr x - 1) / 256
def bfs_RS (n : Nat) (st : (Nat → Nat) × List Nat) (fT fQ : Nat → Int32) : Prop := (∀ j, j < n → fT j = nI (st.1 j)) ∧ (∀ i, i < st.2.length → fQ i = nI (st.2.getD i 0))
def bfs_WF (n : Nat) (st : (Nat → Nat) × List Nat) : Prop := (∀ x ∈ st.2, x < n ∧ st.1 x ≠ 0) ∧ st.2.Nodup ∧ (∀ j, j < n → st.1 j ≠ 0 → j ∈ st.2 ∧ st.1 j ≤ 2560000 ∧ bfs_bf st.1 j < n ∧ st.1 (bfs_bf st.1 j) ≠ 0)
theorem bfs_len : ∀ (n : Nat) (l : List Nat), l.Nodup → (∀ x ∈ l, x < n) → l.length ≤ n := by
  intro n
  induction n with
  | zero =>
    intro l _ h
    cases l with
    | nil => simp
    | cons a l => exact absurd (h a List.mem_cons_self) (Nat.not_lt_zero _)
  | succ n ih =>
    intro l hn h
    by_cases hm : n ∈ l
    · have h1 := ih (l.erase n) (hn.erase n) (fun x hx => by
        have h2 := h x (List.mem_of_mem_erase hx)
        have h3 : x ≠ n := fun e => by
          subst e
          exact (List.Nodup.not_mem_erase hn) hx
        omega)
      have h4 := List.length_erase_of_mem hm
      have h5 : 0 < l.length := List.length_pos_of_mem hm
      omega
    · have h1 := ih l hn (fun x hx => by
        have h2 := h x hx
        have h3 : x ≠ n := fun e => hm (e ▸ hx)
        omega)
      omega
theorem bfs_room {n : Nat} {st : (Nat → Nat) × List Nat} (h : bfs_WF n st) {a : Nat} (ha : a < n) (h0 : st.1 a = 0) : st.2.length < n := by
  have hm : a ∉ st.2 := fun hx => (h.1 a hx).2 h0
  have h1 := bfs_len n (a :: st.2) (List.nodup_cons.mpr ⟨hm, h.2.1⟩) (fun x hx => by
    rcases List.mem_cons.mp hx with e | hx
    · rw [e]; exact ha
    · exact (h.1 x hx).1)
  simp at h1
  omega
theorem bfs_le {n : Nat} {st : (Nat → Nat) × List Nat} (h : bfs_WF n st) : st.2.length ≤ n := bfs_len n st.2 h.2.1 (fun x hx => (h.1 x hx).1)
theorem bfs_tr {n : Nat} {st : (Nat → Nat) × List Nat} (h : bfs_WF n st) {a : Nat} (ha : a < n) : st.1 a < 2 ^ 31 := by
  by_cases h0 : st.1 a = 0
  · omega
  · have := (h.2.2 a ha h0).2.1
    omega
theorem bfs_code {b k : Nat} (hb : b < 10000) (hk : k < 256) : (1 : Int32) + ((nI b <<< ((8 : Int32) &&& 31)) ||| nI k) = nI (1 + (b * 256 + k)) := by
  have e1 : nI b <<< ((8 : Int32) &&& 31) = nI (b * 2 ^ 8) := pk_shlN _ 8 (by decide) (by omega)
  have e2 : nI (b * 2 ^ 8) ||| nI k = nI (b * 256 + k) := by
    have e3 : nI (b * 2 ^ 8) ||| nI k = nI (b * 2 ^ 8 ||| k) := by
      apply Int32.toBitVec_inj.mp
      simp only [nI, Int32.toBitVec_or, Int32.toBitVec_ofNat', Int32.toBitVec_ofNat]
      apply BitVec.eq_of_toNat_eq
      simp only [BitVec.toNat_or, BitVec.toNat_ofNat]
      rw [Nat.or_mod_two_pow]
    rw [e3, show b * 2 ^ 8 ||| k = b * 256 + k from by rw [Nat.mul_comm b, ← Nat.two_pow_add_eq_or_of_lt (by omega : k < 2 ^ 8)]]
  rw [e1, e2]
  exact (nI_add 1 (b * 256 + k))
theorem bfs_mt_RS {n : Nat} {st : (Nat → Nat) × List Nat} {fT fQ : Nat → Int32} {a b k : Nat} (h : bfs_RS n st fT fQ) (h0 : st.1 a = 0) : bfs_RS n (bfs_mt st b (a, k)) (upd fT a (nI (1 + (b * 256 + k)))) (upd fQ st.2.length (nI a)) := by
  unfold bfs_mt
  rw [if_pos h0]
  refine ⟨fun j hj => ?_, fun i hi => ?_⟩
  · by_cases e : j = a
    · subst e; rw [pk_us]; simp [va_up]
    · rw [pk_un e, h.1 j hj]; simp [va_up, e]
  · simp only [List.length_append, List.length_cons, List.length_nil] at hi
    by_cases e : i = st.2.length
    · subst e; rw [pk_us]; simp [List.getD]
    · rw [pk_un e, h.2 i (by omega)]
      have hi2 : i < st.2.length := by omega
      simp [List.getD, List.getElem?_append_left hi2]
theorem bfs_mt_WF {n : Nat} {st : (Nat → Nat) × List Nat} {a b k : Nat} (h : bfs_WF n st) (ha : a < n) (hb : b < n) (hn : n ≤ 10000) (hk : k < 256) (hab : b = a ∨ st.1 b ≠ 0) : bfs_WF n (bfs_mt st b (a, k)) := by
  unfold bfs_mt
  by_cases h0 : st.1 a = 0
  · rw [if_pos h0]
    have hm : a ∉ st.2 := fun hx => (h.1 a hx).2 h0
    refine ⟨fun x hx => ?_, ?_, fun j hj hne => ?_⟩
    · rcases List.mem_append.mp hx with hx | hx
      · refine ⟨(h.1 x hx).1, ?_⟩
        have e : x ≠ a := fun e => hm (e ▸ hx)
        simp only [va_up, if_neg e]
        exact (h.1 x hx).2
      · have e : x = a := by simpa using hx
        subst e
        refine ⟨ha, ?_⟩
        simp [va_up]
    · exact List.nodup_append.mpr ⟨h.2.1, by simp, fun x hx y hy => by
        have e : y = a := by simpa using hy
        subst e
        exact fun e => hm (e ▸ hx)⟩
    · by_cases e : j = a
      · subst e
        have e2 : bfs_bf (va_up st.1 j (1 + (b * 256 + k))) j = b := by
          simp only [bfs_bf, va_up, if_pos]
          omega
        refine ⟨by simp, ?_, ?_, ?_⟩
        · simp only [va_up, if_pos]; omega
        · rw [e2]; exact hb
        · rw [e2]
          by_cases eb : b = j
          · simp [va_up, eb]
          · simp only [va_up, if_neg eb]
            rcases hab with q | q
            · exact absurd q eb
            · exact q
      · have hne2 : st.1 j ≠ 0 := by simpa [va_up, e] using hne
        obtain ⟨q1, q2, q3, q4⟩ := h.2.2 j hj hne2
        have e2 : bfs_bf (va_up st.1 a (1 + (b * 256 + k))) j = bfs_bf st.1 j := by simp [bfs_bf, va_up, e]
        refine ⟨by simp [q1], by simpa [va_up, e] using q2, by rw [e2]; exact q3, ?_⟩
        rw [e2]
        have e3 : bfs_bf st.1 j ≠ a := fun z => q4 (z ▸ h0)
        simpa [va_up, e3] using q4
  · rw [if_neg h0]; exact h
/-- how many steps back to where it stands still -/
def bfs_cnt (g : Nat → Nat) : Nat → Nat → Nat
  | 0, _ => 0
  | f + 1, x => if g x = x then 0 else bfs_cnt g f (g x) + 1
theorem bfs_cnt_le (g : Nat → Nat) : ∀ (f x : Nat), bfs_cnt g f x ≤ f := by
  intro f
  induction f with
  | zero => intro x; exact Nat.le_refl 0
  | succ f ih =>
    intro x
    unfold bfs_cnt
    split
    · omega
    · have := ih (g x); omega
theorem bfs_before {t : Nat} (h0 : t ≠ 0) (h : t ≤ 2560000) : (nI t - 1) >>> ((8 : Int32) &&& 31) = nI ((t - 1) / 256) := by
  rw [show nI t - 1 = nI (t - 1) from pk_sub (a := t) (b := 1) (by omega)]
  exact pk_shrN (by omega) _ 8 (by decide)
theorem bfs_into {t : Nat} (h0 : t ≠ 0) : (nI t - 1) &&& 255 = nI ((t - 1) % 256) := by
  rw [show nI t - 1 = nI (t - 1) from pk_sub (a := t) (b := 1) (by omega)]
  exact (pk_and _ 8 (by decide)).trans (by
    rw [show (nI (t - 1)).toBitVec.toNat = (t - 1) % 2 ^ 32 from by simp [nI]]
    congr 1
    omega)
/-! PURE: jugs. A state is a decimal number, its digit i what is in jug i. -/
def jg_d (x i : Nat) : Nat := x / 10 ^ i % 10
def jg_ok (c : Nat) (sz fl : Nat → Nat) (fS fF : Nat → Int32) : Prop := c ≤ 4 ∧ ∀ i, i < c → fS i = nI (sz i) ∧ 1 ≤ sz i ∧ sz i ≤ 9 ∧ fF i = nI (fl i) ∧ fl i ≤ sz i
def jg_good (c : Nat) (sz : Nat → Nat) (x : Nat) : Prop := x < 10 ^ c ∧ ∀ i, i < c → jg_d x i ≤ sz i
def jg_sum (fl : Nat → Nat) : Nat → Nat
  | 0 => 0
  | i + 1 => jg_sum fl i + fl i * 10 ^ i
def jg_fill (sz : Nat → Nat) (x i : Nat) : Nat × Nat := (x + (sz i - jg_d x i) * 10 ^ i, i + 1)
def jg_empt (x i : Nat) : Nat × Nat := (x - jg_d x i * 10 ^ i, (i + 1) * 8)
def jg_p (sz : Nat → Nat) (x i j : Nat) : Nat := if sz j - jg_d x j < jg_d x i then sz j - jg_d x j else jg_d x i
def jg_pour (sz : Nat → Nat) (x i j : Nat) : Nat × Nat := (x + jg_p sz x i j * 10 ^ j - jg_p sz x i j * 10 ^ i, (i + 1) * 8 + (j + 1))
theorem jg_case {i : Nat} (h : i < 4) : i = 0 ∨ i = 1 ∨ i = 2 ∨ i = 3 := by omega
theorem jg_casec {c : Nat} (h : c ≤ 4) : c = 0 ∨ c = 1 ∨ c = 2 ∨ c = 3 ∨ c = 4 := by omega
theorem jg_d0 (x : Nat) : jg_d x 0 = x % 10 := by simp [jg_d]
theorem jg_d1 (x : Nat) : jg_d x 1 = x / 10 % 10 := by simp [jg_d]
theorem jg_d2 (x : Nat) : jg_d x 2 = x / 100 % 10 := by simp [jg_d]
theorem jg_d3 (x : Nat) : jg_d x 3 = x / 1000 % 10 := by simp [jg_d]
theorem jg_d_le (x i : Nat) : jg_d x i ≤ 9 := by unfold jg_d; omega
theorem jg_code : ∀ a : Nat, a < 5 → ∀ b : Nat, b < 5 → ((nI a - 1 + 1) <<< ((3 : Int32) &&& 31)) ||| (nI b - 1 + 1) = nI (a * 8 + b) := by decide +kernel
theorem jg_ring {x p a b : Nat} (h : p * b ≤ x + p * a) : nI x + nI p * (nI a - nI b) = nI (x + p * a - p * b) := by
  rw [Int32.sub_eq_add_neg, Int32.mul_add, Int32.mul_neg, ← Int32.add_assoc, pk_mul, pk_mul, nI_add, ← Int32.sub_eq_add_neg]
  exact pk_sub h
theorem jg_add_lt {jc i x p : Nat} (hc : jc ≤ 4) (hi : i < jc) (hx : x < 10 ^ jc) (hp : p + jg_d x i ≤ 9) : x + p * 10 ^ i < 10 ^ jc := by
  rcases jg_casec hc with rfl | rfl | rfl | rfl | rfl <;> rcases jg_case (Nat.lt_of_lt_of_le hi hc) with rfl | rfl | rfl | rfl <;> simp only [jg_d] at hp <;> omega
theorem jg_d_mul_le (x i : Nat) : jg_d x i * 10 ^ i ≤ x := by
  unfold jg_d
  have h1 : x / 10 ^ i % 10 ≤ x / 10 ^ i := Nat.mod_le _ _
  exact Nat.le_trans (Nat.mul_le_mul_right _ h1) (Nat.div_mul_le_self x (10 ^ i))
theorem jg_p_le1 (sz : Nat → Nat) (x i j : Nat) : jg_p sz x i j ≤ jg_d x i := by unfold jg_p; split <;> omega
theorem jg_p_le2 (sz : Nat → Nat) (x i j : Nat) : jg_p sz x i j ≤ sz j - jg_d x j := by unfold jg_p; split <;> omega
theorem jg_p_i32 {sz : Nat → Nat} {x i j : Nat} (h : sz j ≤ 9) : (if nI (sz j - jg_d x j) < nI (jg_d x i) then nI (sz j - jg_d x j) else nI (jg_d x i)) = nI (jg_p sz x i j) := by
  unfold jg_p
  have h1 := jg_d_le x i
  have h2 : sz j - jg_d x j ≤ 9 := by omega
  rcases Nat.lt_or_ge (sz j - jg_d x j) (jg_d x i) with q | q
  · rw [if_pos (nI_lt q (by omega)), if_pos q]
  · rw [if_neg (nI_nlt q (by omega)), if_neg (Nat.not_lt.mpr q)]
theorem jg_pour_sub {sz : Nat → Nat} {x i j : Nat} : jg_p sz x i j * 10 ^ i ≤ x + jg_p sz x i j * 10 ^ j := by
  have h1 := Nat.mul_le_mul_right (10 ^ i) (jg_p_le1 sz x i j)
  have h2 := jg_d_mul_le x i
  omega
theorem jg_fill_lt {jc : Nat} {sz : Nat → Nat} {x i : Nat} (hc : jc ≤ 4) (hi : i < jc) (hx : x < 10 ^ jc) (hs : sz i ≤ 9) (hg : jg_d x i ≤ sz i) : (jg_fill sz x i).1 < 10 ^ jc := jg_add_lt hc hi hx (by omega)
theorem jg_empt_lt {jc x i : Nat} (hx : x < 10 ^ jc) : (jg_empt x i).1 < 10 ^ jc := Nat.lt_of_le_of_lt (Nat.sub_le _ _) hx
theorem jg_pour_lt {jc : Nat} {sz : Nat → Nat} {x i j : Nat} (hc : jc ≤ 4) (hj : j < jc) (hx : x < 10 ^ jc) (hs : sz j ≤ 9) (hg : jg_d x j ≤ sz j) : (jg_pour sz x i j).1 < 10 ^ jc := by
  have h1 := jg_p_le2 sz x i j
  exact Nat.lt_of_le_of_lt (Nat.sub_le _ _) (jg_add_lt hc hj hx (by omega))
/-- what the steps from x lead to, in their order -/
def jg_l1 (sz : Nat → Nat) (x : Nat) (st : (Nat → Nat) × List Nat) : Nat → (Nat → Nat) × List Nat
  | 0 => st
  | i + 1 => bfs_mt (jg_l1 sz x st i) x (jg_fill sz x i)
def jg_l3 (sz : Nat → Nat) (x i : Nat) (st : (Nat → Nat) × List Nat) : Nat → (Nat → Nat) × List Nat
  | 0 => st
  | j + 1 => bfs_mt (jg_l3 sz x i st j) x (jg_pour sz x i j)
def jg_l2 (jc : Nat) (sz : Nat → Nat) (x : Nat) (st : (Nat → Nat) × List Nat) : Nat → (Nat → Nat) × List Nat
  | 0 => st
  | i + 1 => jg_l3 sz x i (bfs_mt (jg_l2 jc sz x st i) x (jg_empt x i)) jc
def jg_next (jc : Nat) (sz : Nat → Nat) (x : Nat) (st : (Nat → Nat) × List Nat) : (Nat → Nat) × List Nat := jg_l2 jc sz x (jg_l1 sz x st jc) jc
/-- what a search keeps, at a state x that is met -/
def bfs_I (n x : Nat) (st : (Nat → Nat) × List Nat) : Prop := bfs_WF n st ∧ st.1 x ≠ 0
theorem bfs_mt_ne {st : (Nat → Nat) × List Nat} {b x : Nat} {y : Nat × Nat} (h : st.1 x ≠ 0) : (bfs_mt st b y).1 x ≠ 0 := by
  unfold bfs_mt
  split
  · by_cases e : x = y.1
    · simp [va_up, e]
    · simpa [va_up, e] using h
  · exact h
theorem bfs_mt_I {n x : Nat} {st : (Nat → Nat) × List Nat} {y : Nat × Nat} (h : bfs_I n x st) (hn : n ≤ 10000) (hx : x < n) (hy : y.1 < n) (hk : y.2 < 256) : bfs_I n x (bfs_mt st x y) := ⟨bfs_mt_WF (a := y.1) (k := y.2) h.1 hy hx hn hk (Or.inr h.2), bfs_mt_ne h.2⟩
/-! PURE: the river. -/
def rv_pop (k : Nat) : Nat := k % 2 + k / 2 % 2 + k / 4 % 2 + k / 8 % 2 + k / 16 % 2 + k / 32 % 2 + k / 64 % 2 + k / 128 % 2
theorem rv_popE : ∀ k : Nat, k < 256 → (((((((((nI k) - ((((nI k).toUInt32 >>> ((1 : Int32).toUInt32 &&& Int32.toUInt32 31)).toInt32) &&& 1431655765)) &&& 858993459) + (((((nI k) - ((((nI k).toUInt32 >>> ((1 : Int32).toUInt32 &&& Int32.toUInt32 31)).toInt32) &&& 1431655765)).toUInt32 >>> ((2 : Int32).toUInt32 &&& Int32.toUInt32 31)).toInt32) &&& 858993459)) + ((((((nI k) - ((((nI k).toUInt32 >>> ((1 : Int32).toUInt32 &&& Int32.toUInt32 31)).toInt32) &&& 1431655765)) &&& 858993459) + (((((nI k) - ((((nI k).toUInt32 >>> ((1 : Int32).toUInt32 &&& Int32.toUInt32 31)).toInt32) &&& 1431655765)).toUInt32 >>> ((2 : Int32).toUInt32 &&& Int32.toUInt32 31)).toInt32) &&& 858993459)).toUInt32 >>> ((4 : Int32).toUInt32 &&& Int32.toUInt32 31)).toInt32)) &&& 252645135) + ((((((((nI k) - ((((nI k).toUInt32 >>> ((1 : Int32).toUInt32 &&& Int32.toUInt32 31)).toInt32) &&& 1431655765)) &&& 858993459) + (((((nI k) - ((((nI k).toUInt32 >>> ((1 : Int32).toUInt32 &&& Int32.toUInt32 31)).toInt32) &&& 1431655765)).toUInt32 >>> ((2 : Int32).toUInt32 &&& Int32.toUInt32 31)).toInt32) &&& 858993459)) + ((((((nI k) - ((((nI k).toUInt32 >>> ((1 : Int32).toUInt32 &&& Int32.toUInt32 31)).toInt32) &&& 1431655765)) &&& 858993459) + (((((nI k) - ((((nI k).toUInt32 >>> ((1 : Int32).toUInt32 &&& Int32.toUInt32 31)).toInt32) &&& 1431655765)).toUInt32 >>> ((2 : Int32).toUInt32 &&& Int32.toUInt32 31)).toInt32) &&& 858993459)).toUInt32 >>> ((4 : Int32).toUInt32 &&& Int32.toUInt32 31)).toInt32)) &&& 252645135).toUInt32 >>> ((8 : Int32).toUInt32 &&& Int32.toUInt32 31)).toInt32)) + (((((((((nI k) - ((((nI k).toUInt32 >>> ((1 : Int32).toUInt32 &&& Int32.toUInt32 31)).toInt32) &&& 1431655765)) &&& 858993459) + (((((nI k) - ((((nI k).toUInt32 >>> ((1 : Int32).toUInt32 &&& Int32.toUInt32 31)).toInt32) &&& 1431655765)).toUInt32 >>> ((2 : Int32).toUInt32 &&& Int32.toUInt32 31)).toInt32) &&& 858993459)) + ((((((nI k) - ((((nI k).toUInt32 >>> ((1 : Int32).toUInt32 &&& Int32.toUInt32 31)).toInt32) &&& 1431655765)) &&& 858993459) + (((((nI k) - ((((nI k).toUInt32 >>> ((1 : Int32).toUInt32 &&& Int32.toUInt32 31)).toInt32) &&& 1431655765)).toUInt32 >>> ((2 : Int32).toUInt32 &&& Int32.toUInt32 31)).toInt32) &&& 858993459)).toUInt32 >>> ((4 : Int32).toUInt32 &&& Int32.toUInt32 31)).toInt32)) &&& 252645135) + ((((((((nI k) - ((((nI k).toUInt32 >>> ((1 : Int32).toUInt32 &&& Int32.toUInt32 31)).toInt32) &&& 1431655765)) &&& 858993459) + (((((nI k) - ((((nI k).toUInt32 >>> ((1 : Int32).toUInt32 &&& Int32.toUInt32 31)).toInt32) &&& 1431655765)).toUInt32 >>> ((2 : Int32).toUInt32 &&& Int32.toUInt32 31)).toInt32) &&& 858993459)) + ((((((nI k) - ((((nI k).toUInt32 >>> ((1 : Int32).toUInt32 &&& Int32.toUInt32 31)).toInt32) &&& 1431655765)) &&& 858993459) + (((((nI k) - ((((nI k).toUInt32 >>> ((1 : Int32).toUInt32 &&& Int32.toUInt32 31)).toInt32) &&& 1431655765)).toUInt32 >>> ((2 : Int32).toUInt32 &&& Int32.toUInt32 31)).toInt32) &&& 858993459)).toUInt32 >>> ((4 : Int32).toUInt32 &&& Int32.toUInt32 31)).toInt32)) &&& 252645135).toUInt32 >>> ((8 : Int32).toUInt32 &&& Int32.toUInt32 31)).toInt32)).toUInt32 >>> ((16 : Int32).toUInt32 &&& Int32.toUInt32 31)).toInt32)) &&& 63 : Int32) = nI (rv_pop k) := by decide +kernel
theorem nI_and (a b : Nat) : nI a &&& nI b = nI (a &&& b) := by
  apply Int32.toBitVec_inj.mp
  simp only [nI, Int32.toBitVec_and, Int32.toBitVec_ofNat', Int32.toBitVec_ofNat]
  apply BitVec.eq_of_toNat_eq
  simp only [BitVec.toNat_and, BitVec.toNat_ofNat]
  rw [Nat.and_mod_two_pow]
theorem nI_or (a b : Nat) : nI a ||| nI b = nI (a ||| b) := by
  apply Int32.toBitVec_inj.mp
  simp only [nI, Int32.toBitVec_or, Int32.toBitVec_ofNat', Int32.toBitVec_ofNat]
  apply BitVec.eq_of_toNat_eq
  simp only [BitVec.toNat_or, BitVec.toNat_ofNat]
  rw [Nat.or_mod_two_pow]
theorem nI_xor (a b : Nat) : nI a ^^^ nI b = nI (a ^^^ b) := by
  apply Int32.toBitVec_inj.mp
  simp only [nI, Int32.toBitVec_xor, Int32.toBitVec_ofNat', Int32.toBitVec_ofNat]
  apply BitVec.eq_of_toNat_eq
  simp only [BitVec.toNat_xor, BitVec.toNat_ofNat]
  rw [Nat.xor_mod_two_pow]
theorem rv_bit8 {b i : Nat} (hb : b < 256) (hi : 8 ≤ i) : b.testBit i = false := Nat.testBit_lt_two_pow (Nat.lt_of_lt_of_le hb (Nat.pow_le_pow_right (n := 2) (by decide) hi))
/-- b without t, of eight things -/
def rv_wo (b t : Nat) : Nat := b &&& (255 ^^^ t)
theorem rv_wo_lt {b t : Nat} (hb : b < 256) : rv_wo b t < 256 := Nat.lt_of_le_of_lt Nat.and_le_left hb
theorem rv_woE {b t : Nat} (hb : b < 256) : nI b &&& (nI t ^^^ (-1)) = nI (rv_wo b t) := by
  rw [show (-1 : Int32) = nI (2 ^ 32 - 1) from by decide, nI_xor, nI_and]
  congr 1
  apply Nat.eq_of_testBit_eq
  intro i
  unfold rv_wo
  simp only [Nat.testBit_and, Nat.testBit_xor]
  rcases Nat.lt_or_ge i 8 with q | q
  · have h1 : (2 ^ 32 - 1).testBit i = true := by rw [Nat.testBit_two_pow_sub_one]; simp; omega
    have h2 : (255 : Nat).testBit i = true := by rw [show (255 : Nat) = 2 ^ 8 - 1 from rfl, Nat.testBit_two_pow_sub_one]; simp; omega
    rw [h1, h2, Bool.xor_comm]
  · rw [rv_bit8 hb q]; simp
def rv_nx (b t : Nat) : Nat := (t + 256 - b) % 256 &&& b
theorem rv_nx_lt {b t : Nat} (hb : b < 256) : rv_nx b t < 256 := Nat.lt_of_le_of_lt Nat.and_le_right hb
theorem rv_nxE {b t : Nat} (hb : b < 256) (ht : t < 256) : (nI t - nI b) &&& nI b = nI (rv_nx b t) := by
  have e1 : nI t - nI b = nI (t + 2 ^ 32 - b) := by
    rw [← pk_sub (a := t + 2 ^ 32) (b := b) (by omega), ← nI_add]
    rw [show nI (2 ^ 32) = 0 from by decide, Int32.add_zero]
  rw [e1, nI_and]
  congr 1
  apply Nat.eq_of_testBit_eq
  intro i
  unfold rv_nx
  simp only [Nat.testBit_and]
  rcases Nat.lt_or_ge i 8 with q | q
  · have h1 : (t + 2 ^ 32 - b) % 2 ^ 8 = (t + 256 - b) % 2 ^ 8 := by omega
    have h2 := Nat.testBit_mod_two_pow (t + 2 ^ 32 - b) 8 i
    have h3 := Nat.testBit_mod_two_pow (t + 256 - b) 8 i
    rw [h1, h3] at h2
    simp only [q, decide_true, Bool.true_and] at h2
    rw [show (256 : Nat) = 2 ^ 8 from rfl, Nat.testBit_mod_two_pow]
    simp only [q, decide_true, Bool.true_and]
    rw [← h2]
  · rw [rv_bit8 hb q]; simp
theorem rv_all : ∀ t : Nat, t < 9 → ((1 : Int32) <<< (nI t &&& 31)) - 1 = nI (2 ^ t - 1) := by decide +kernel
theorem rv_m255 (a : Nat) : nI a &&& 255 = nI (a % 256) := by
  rw [show (255 : Int32) = nI (2 ^ 8 - 1) from by decide, nI_and, Nat.and_two_pow_sub_one_eq_mod]
abbrev rv_addok (fL : Nat → Int32) (x : Int32) : Prop := ¬ x - 97 < 0 ∧ ¬ 8 ≤ x - 97 ∧ fL (x - 97).toNatClampNeg = -1
abbrev rv_lok (x : Int32) : Prop := ¬ x - 97 < 0 ∧ x - 97 < 8
def rv_thing (fL : Nat → Int32) (x : Int32) : Int32 := if rv_lok x then fL (x - 97).toNatClampNeg else -1
abbrev rv_kok (t : Nat) (a b : Int32) : Prop := ¬ a < 0 ∧ ¬ nI t ≤ a ∧ ¬ b < 0 ∧ ¬ nI t ≤ b ∧ ¬ a = b
def rv_keep (fN : Nat → Int32) (a b : Int32) : Nat → Int32 := upd (upd fN a.toNatClampNeg (fN a.toNatClampNeg ||| (1 <<< (b &&& 31)))) b.toNatClampNeg (upd fN a.toNatClampNeg (fN a.toNatClampNeg ||| (1 <<< (b &&& 31))) b.toNatClampNeg ||| (1 <<< (a &&& 31)))
theorem rv_vp8 {k : Int32} (h0 : ¬ k < 0) (h1 : ¬ 8 ≤ k) : vp_in k 8 := zz_vp (n := 8) h0 h1 (by decide)
theorem rv_vp8l {k : Int32} (h0 : ¬ k < 0) (h1 : k < 8) : vp_in k 8 := rv_vp8 h0 (zz_nle h1)
theorem rv_vpt {t : Nat} (ht : t ≤ 8) {k : Int32} (h0 : ¬ k < 0) (h1 : ¬ nI t ≤ k) : vp_in k 8 := by
  obtain ⟨j, hj, rfl⟩ := vp_in_of (zz_vp h0 h1 (by omega)) (by omega)
  exact vp_in_nI (by omega) (by decide)
/-- no two that may not be left together are in the set -/
abbrev rv_stay (nw : Nat → Nat) (m : Nat) : Prop := ∀ i, i < 8 → m / 2 ^ i % 2 = 1 → nw i &&& m = 0
theorem rv_bitE {m i : Nat} (hm : m < 256) (hi : i < 8) : (nI m >>> (nI i &&& 31)) &&& 1 = nI (m / 2 ^ i % 2) := by
  have e : ((nI i &&& 31).toBitVec.smod 32).toNat = i := by
    rcases (show i = 0 ∨ i = 1 ∨ i = 2 ∨ i = 3 ∨ i = 4 ∨ i = 5 ∨ i = 6 ∨ i = 7 by omega) with rfl | rfl | rfl | rfl | rfl | rfl | rfl | rfl <;> decide
  rw [pk_shrN (by omega) _ i e, show (1 : Int32) = nI (2 ^ 1 - 1) from by decide, nI_and, Nat.and_two_pow_sub_one_eq_mod]
def rv_go (nw : Nat → Nat) (bt x bank on : Nat) : Nat → Nat → (Nat → Nat) × List Nat → (Nat → Nat) × List Nat
  | 0, _, st => st
  | f + 1, t, st => if t = bank then (if rv_pop t ≤ bt ∧ rv_stay nw (rv_wo bank t) then bfs_mt st x (on ||| (x % 256 ^^^ t), t) else st) else rv_go nw bt x bank on f (rv_nx bank t) (if rv_pop t ≤ bt ∧ rv_stay nw (rv_wo bank t) then bfs_mt st x (on ||| (x % 256 ^^^ t), t) else st)
def rv_bank (tn x : Nat) : Nat := if x < 256 then rv_wo (2 ^ tn - 1) (x % 256) else x % 256
def rv_on (x : Nat) : Nat := if x < 256 then 256 else 0
def rv_next (tn : Nat) (nw : Nat → Nat) (bt x : Nat) (st : (Nat → Nat) × List Nat) : (Nat → Nat) × List Nat := rv_go nw bt x (rv_bank tn x) (rv_on x) 256 0 st
theorem rv_pop_le (k : Nat) : rv_pop k ≤ 8 := by unfold rv_pop; omega
theorem rv_m256 {x : Nat} (hx : x < 512) : nI x &&& 256 = nI (x / 256 * 256) := by
  rw [show (256 : Int32) = nI 256 from rfl, nI_and]
  congr 1
  have e : x = 2 ^ 8 * (x / 256) + x % 256 := by omega
  rcases (show x / 256 = 0 ∨ x / 256 = 1 by omega) with q | q
  · rw [q]
    apply Nat.eq_of_testBit_eq
    intro i
    simp only [Nat.testBit_and, Nat.zero_mul, Nat.zero_testBit]
    rcases Nat.lt_or_ge i 8 with r | r
    · rw [show (256 : Nat) = 2 ^ 8 from rfl, Nat.testBit_two_pow_of_ne (by omega)]; simp
    · rw [rv_bit8 (b := x) (by omega) r]; simp
  · rw [q]
    apply Nat.eq_of_testBit_eq
    intro i
    simp only [Nat.testBit_and, Nat.one_mul]
    by_cases r : i = 8
    · subst r
      have h1 : x.testBit 8 = true := by
        rw [Nat.testBit_eq_decide_div_mod_eq]
        simp
        omega
      rw [h1]; simp
    · rw [show (256 : Nat) = 2 ^ 8 from rfl, Nat.testBit_two_pow_of_ne (by omega)]; simp
theorem rv_tgt_lt {on far t : Nat} (ho : on = 0 ∨ on = 256) (hf : far < 256) (ht : t < 256) : (on ||| (far ^^^ t)) < 512 := by
  have h1 : far ^^^ t < 2 ^ 9 := Nat.xor_lt_two_pow (by omega) (by omega)
  have h2 : on < 2 ^ 9 := by omega
  exact Nat.or_lt_two_pow h2 h1
/-! PURE: the text of a crossing. -/
def rt_u (fU : Nat → Int32) (k j : Nat) : Int32 := if j < k then fU j else -1
def rt_things (U : Nat → Int32) : Nat → Nat → (Nat → Int32) × Nat → Nat × (Nat → Int32) × Nat
  | 0, p, S => (p, S)
  | f + 1, p, S => if rv_addok S.1 (U p) then rt_things U f (p + 1) (upd S.1 (U p - 97).toNatClampNeg (nI S.2), S.2 + 1) else (p, S)
def rt_pairs (U : Nat → Int32) (k : Nat) (fL : Nat → Int32) (t : Nat) : Nat → Nat → (Nat → Int32) × Int32 → Int32 × (Nat → Int32) × Int32
  | 0, p, S => (nI p, S)
  | f + 1, p, S => if U p = 32 then (if ¬ U (p + 1) < 49 ∧ U (p + 1) ≤ 51 then ((if p + 2 = k then -1 else nI (p + 2)), S.1, U (p + 1) - 48) else if rv_thing fL (U (p + 1)) = -1 then (nI (p + 1), S) else if rv_kok t (rv_thing fL (U (p + 1))) (rv_thing fL (U (p + 2))) then rt_pairs U k fL t f (p + 3) (rv_keep S.1 (rv_thing fL (U (p + 1))) (rv_thing fL (U (p + 2))), S.2) else (nI (p + 2), S)) else (nI p, S)
/-- how many letters have a thing -/
def rt_cnt (fL : Nat → Int32) : Nat → Nat
  | 0 => 0
  | j + 1 => rt_cnt fL j + (if fL j = -1 then 0 else 1)
theorem rt_cnt_le (fL : Nat → Int32) : ∀ n, rt_cnt fL n ≤ n := by
  intro n
  induction n with
  | zero => exact Nat.le_refl 0
  | succ n ih => unfold rt_cnt; split <;> omega
theorem rt_cnt_upd {fL : Nat → Int32} {i : Nat} {v : Int32} (h : fL i = -1) (hv : v ≠ -1) : ∀ n, rt_cnt (upd fL i v) n = rt_cnt fL n + (if i < n then 1 else 0) := by
  intro n
  induction n with
  | zero => simp [rt_cnt]
  | succ n ih =>
    unfold rt_cnt
    rw [ih]
    by_cases e : n = i
    · subst e
      rw [pk_us, if_neg hv, h, if_pos rfl, if_neg (Nat.lt_irrefl n), if_pos (Nat.lt_succ_self n)]
    · rw [pk_un e]
      by_cases q : i < n
      · rw [if_pos q, if_pos (by omega : i < n + 1)]; omega
      · rw [if_neg q, if_neg (by omega : ¬ i < n + 1), Nat.add_zero, Nat.add_zero]
theorem rt_cnt_0 {fL : Nat → Int32} : ∀ n, (∀ j, j < n → fL j = -1) → rt_cnt fL n = 0 := by
  intro n
  induction n with
  | zero => intro _; rfl
  | succ n ih =>
    intro h
    unfold rt_cnt
    rw [ih (fun j hj => h j (by omega)), if_pos (h n (Nat.lt_succ_self n))]
theorem rt_things_cnt (U : Nat → Int32) : ∀ (f p : Nat) (S : (Nat → Int32) × Nat), rt_cnt S.1 8 = S.2 → rt_cnt (rt_things U f p S).2.1 8 = (rt_things U f p S).2.2 := by
  intro f
  induction f with
  | zero => intro p S h; exact h
  | succ f ih =>
    intro p S h
    unfold rt_things
    split
    · rename_i hok
      refine ih (p + 1) _ ?_
      obtain ⟨h1, h2, h3⟩ := hok
      obtain ⟨j, hj, e⟩ := vp_in_of (rv_vp8 h1 h2) (by decide)
      have ej : (U p - 97).toNatClampNeg = j := by rw [e]; exact nI_clamp (by omega)
      have hc := rt_cnt_le S.1 8
      have hne : nI S.2 ≠ -1 := by
        rw [← h]
        intro z
        have := congrArg Int32.toInt z
        rw [nI_toInt (by omega)] at this
        have e2 : (-1 : Int32).toInt = -1 := by decide
        rw [e2] at this
        omega
      rw [ej] at h3 ⊢
      show rt_cnt (upd S.1 j (nI S.2)) 8 = S.2 + 1
      rw [rt_cnt_upd h3 hne, if_pos hj, h]
    · exact h
theorem rt_things_le {U : Nat → Int32} {fL : Nat → Int32} (h : ∀ j, j < 8 → fL j = -1) : (rt_things U 100 0 (fL, 0)).2.2 ≤ 8 := by
  rw [← rt_things_cnt U 100 0 (fL, 0) (rt_cnt_0 8 h)]
  exact rt_cnt_le _ 8
theorem rt_things_p (U : Nat → Int32) : ∀ (f p : Nat) (S : (Nat → Int32) × Nat), (rt_things U f p S).1 ≤ p + f := by
  intro f
  induction f with
  | zero => intro p S; exact Nat.le_refl _
  | succ f ih =>
    intro p S
    unfold rt_things
    split
    · have := ih (p + 1) (upd S.1 (U p - 97).toNatClampNeg (nI S.2), S.2 + 1); omega
    · exact Nat.le_add_right _ _
theorem rt_things_pos {U : Nat → Int32} {f p : Nat} {S : (Nat → Int32) × Nat} (h : rv_addok S.1 (U p)) : rt_things U (f + 1) p S = rt_things U f (p + 1) (upd S.1 (U p - 97).toNatClampNeg (nI S.2), S.2 + 1) := by rw [rt_things, if_pos h]
theorem rt_things_neg {U : Nat → Int32} {f p : Nat} {S : (Nat → Int32) × Nat} (h : ¬ rv_addok S.1 (U p)) : rt_things U (f + 1) p S = (p, S) := by rw [rt_things, if_neg h]
