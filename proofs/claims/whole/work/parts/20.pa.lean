-- ===== the pure side: numbers, bits, booleans as ints =====
def pa_b (b : Bool) : Int32 := if b then 1 else 0
theorem pa_b0 (b : Bool) : pa_b b = 0 ↔ b = false := by cases b <;> decide
theorem pa_bn (b : Bool) : ¬ pa_b b = 0 ↔ b = true := by cases b <;> decide
theorem pa_b1 (b : Bool) : pa_b b = 1 ↔ b = true := by cases b <;> decide
theorem pa_z (b : Bool) : xq_z (pa_b b) := by cases b <;> (show narrow .boolean _ = _) <;> decide
theorem pa_br {c : Prop} {A B : Prop} (h1 : c → A) (h2 : ¬ c → B) : (c → A) ∧ (¬ c → B) := ⟨h1, h2⟩
theorem pa_lt (a b : Int32) : a < b ↔ a.toInt < b.toInt := Int32.lt_iff_toInt_lt
theorem pa_le (a b : Int32) : a ≤ b ↔ a.toInt ≤ b.toInt := Int32.le_iff_toInt_le
theorem pa_eq (a b : Int32) : a = b ↔ a.toInt = b.toInt := Int32.toInt_inj.symm
theorem pa_llt (a b : Int64) : a < b ↔ a.toInt < b.toInt := Int64.lt_iff_toInt_lt
theorem pa_lle (a b : Int64) : a ≤ b ↔ a.toInt ≤ b.toInt := Int64.le_iff_toInt_le
theorem pa_leq (a b : Int64) : a = b ↔ a.toInt = b.toInt := Int64.toInt_inj.symm
theorem pa_i64 (a : Int32) : a.toInt64.toInt = a.toInt := Int32.toInt_toInt64 a
theorem pa_in (x : Int32) : -2147483648 ≤ x.toInt ∧ x.toInt < 2147483648 := ⟨Int32.minValue_le_toInt x, Int32.toInt_lt x⟩
theorem pa_nI (n : Nat) (h : n < 2147483648) : (nI n).toInt = n := nI_toInt h
/-- a number in a range is one of the naturals -/
theorem pa_of {x : Int32} {n : Nat} (h0 : 0 ≤ x.toInt) (h1 : x.toInt < n) (hn : n ≤ 2147483648) : ∃ k : Nat, k < n ∧ x = nI k := by
  refine ⟨x.toInt.toNat, by omega, ?_⟩
  rw [pa_eq, pa_nI _ (by omega)]
  omega
theorem pa_nIinj {a b : Nat} (ha : a < 2147483648) (hb : b < 2147483648) : nI a = nI b ↔ a = b := nI_eq ha hb
theorem pa_cl {n : Nat} (h : n < 2147483648) : (nI n).toNatClampNeg = n := nI_clamp h
theorem pa_vp {n N : Nat} (h : n < N) (hN : N < 2147483648) : vp_in (nI n) N := vp_in_nI h hN
theorem pa_vpi {x : Int32} {N : Nat} (h0 : 0 ≤ x.toInt) (h1 : x.toInt < N) : vp_in x N := vp_in_iff.mpr ⟨h0, h1⟩
theorem pa_one : (1 : Int32) = nI 1 := by decide
theorem pa_zero : (0 : Int32) = nI 0 := by decide
theorem pa_s1 (n : Nat) : nI n + (1 : Int32) = nI (n + 1) := nI_1 n
theorem pa_leN {a b : Nat} (ha : a < 2147483648) (hb : b < 2147483648) : nI a ≤ nI b ↔ a ≤ b := nI_leI ha hb
theorem pa_ltN {a b : Nat} (ha : a < 2147483648) (hb : b < 2147483648) : nI a < nI b ↔ a < b := nI_ltI ha hb
/-- the bit of a small set -/
theorem pa_bit : ∀ s, s < 64 → ∀ k, k < 6 → ((nI s >>> (nI k &&& 31)) &&& (1 : Int32)) = pa_b (s.testBit k) := by decide +kernel
theorem pa_shl : ∀ k, k < 7 → ((1 : Int32) <<< (nI k &&& 31)) = nI (2 ^ k) := by decide +kernel
theorem pa_or (a b : Nat) : nI a ||| nI b = nI (a ||| b) := by
  apply Int32.toBitVec_inj.mp
  show (BitVec.ofNat 32 a) ||| (BitVec.ofNat 32 b) = BitVec.ofNat 32 (a ||| b)
  apply BitVec.eq_of_getLsbD_eq
  intro i hi
  simp [BitVec.getLsbD_ofNat, hi]
/-- what of a list isn't the case -/
def pa_un (li x : Nat) : Nat := li &&& (63 ^^^ x)
theorem pa_un32 : ∀ a, a < 64 → ∀ x, x < 64 → (((nI a &&& (nI x ^^^ (-1 : Int32))) &&& 63)) = nI (pa_un a x) := by decide +kernel
theorem pa_unb : ∀ a, a < 64 → ∀ x, x < 64 → ∀ t, t < 6 → (pa_un a x).testBit t = (a.testBit t && !x.testBit t) := by decide +kernel
theorem pa_unle {a x : Nat} : pa_un a x ≤ a := Nat.and_le_left
theorem pa_unlt {a x m : Nat} (h : a < m) : pa_un a x < m := Nat.lt_of_le_of_lt pa_unle h
-- the leaves
theorem pa_2 {A B : Prop} {P : Int32 → Prop} {c : Bool} (h : c = true ↔ (¬ A ∧ ¬ B)) : ((A → P 0) ∧ (¬ A → ((B → P 0) ∧ (¬ B → P 1)))) ↔ P (pa_b c) := by
  cases c <;> by_cases hA : A <;> by_cases hB : B <;> simp_all [pa_b]
theorem pa_3 {A B C : Prop} {P : Int32 → Prop} {c : Bool} (h : c = true ↔ (¬ A ∧ ¬ B ∧ ¬ C)) : ((A → P 0) ∧ (¬ A → ((B → P 0) ∧ (¬ B → ((C → P 0) ∧ (¬ C → P 1)))))) ↔ P (pa_b c) := by
  cases c <;> by_cases hA : A <;> by_cases hB : B <;> by_cases hC : C <;> simp_all [pa_b]
theorem pa_1 {A : Prop} {P : Int32 → Prop} {c : Bool} (h : c = true ↔ ¬ A) : ((A → P 0) ∧ (¬ A → P 1)) ↔ P (pa_b c) := by
  cases c <;> by_cases hA : A <;> simp_all [pa_b]
theorem pa_1n {A : Prop} {P : Int32 → Prop} {c : Bool} (h : c = true ↔ A) : ((¬ A → P 0) ∧ (A → P 1)) ↔ P (pa_b c) := by
  cases c <;> by_cases hA : A <;> simp_all [pa_b]
theorem pa_l0 (a : Int32) : a < 0 ↔ a.toInt < 0 := pa_lt a 0
theorem pa_ge {m : Int32} {k : Int} (h : m.toInt = k) (a : Int32) : m ≤ a ↔ k ≤ a.toInt := by rw [pa_le, h]
theorem pa_gt {m : Int32} {k : Int} (h : m.toInt = k) (a : Int32) : m < a ↔ k < a.toInt := by rw [pa_lt, h]
theorem pa_le0 (a : Int32) : a ≤ 0 ↔ a.toInt ≤ 0 := pa_le a 0
theorem pa_e0 (a : Int32) : a = 0 ↔ a.toInt = 0 := pa_eq a 0
theorem s_isHour (a : Int32) (post : Int32 → Prop) : w_X5_isHour a post ↔ post (pa_b (decide (0 ≤ a.toInt ∧ a.toInt < 6))) :=
  pa_2 (by rw [decide_eq_true_iff, pa_l0, pa_ge (k := 6) rfl]; omega)
theorem s_isBreath (a : Int32) (post : Int32 → Prop) : w_X5_isBreath a post ↔ post (pa_b (decide (0 ≤ a.toInt ∧ a.toInt ≤ 18))) :=
  pa_2 (by rw [decide_eq_true_iff, pa_l0, pa_gt (k := 18) rfl]; omega)
theorem s_isLane (a : Int32) (post : Int32 → Prop) : w_X5_isLane a post ↔ post (pa_b (decide (0 ≤ a.toInt ∧ a.toInt < 3))) :=
  pa_2 (by rw [decide_eq_true_iff, pa_l0, pa_ge (k := 3) rfl]; omega)
theorem s_isSheet (a : Int32) (post : Int32 → Prop) : w_X2_isSheet a post ↔ post (pa_b (decide (0 ≤ a.toInt ∧ a.toInt < 4))) :=
  pa_2 (by rw [decide_eq_true_iff, pa_l0, pa_ge (k := 4) rfl]; omega)
theorem s_isHalf (a : Int32) (post : Int32 → Prop) : w_X5_isHalfOfShare a post ↔ post (pa_b (decide (a.toInt = 0 ∨ a.toInt = 1))) := by
  unfold w_X5_isHalfOfShare
  rw [pa_e0, pa_eq a 1, show (1 : Int32).toInt = 1 from rfl]
  by_cases h1 : a.toInt = 0
  · simp [h1, pa_b]
  · by_cases h2 : a.toInt = 1 <;> simp [h1, h2, pa_b]
theorem s_in (v lo hi : Int64) (post : Int32 → Prop) : w_X6_in v lo hi post ↔ post (pa_b (decide (lo.toInt ≤ v.toInt ∧ v.toInt ≤ hi.toInt))) :=
  pa_2 (by rw [decide_eq_true_iff, lg_cmp_lt, lg_cmp_gt, pa_llt, pa_llt]; omega)
theorem s_isIn {s k : Nat} (hs : s < 64) (hk : k < 6) (post : Int32 → Prop) : w_X6_isIn (nI s) (nI k) post ↔ post (pa_b (s.testBit k)) := by
  unfold w_X6_isIn
  rw [pa_bit s hs k hk]
  cases h : s.testBit k <;> simp [pa_b]
theorem s_has {s k : Nat} (hs : s < 64) (hk : k < 6) (post : Int32 → Prop) : w_X5_has (nI s) (nI k) post ↔ post (pa_b (s.testBit k)) := by
  unfold w_X5_has
  rw [pa_bit s hs k hk]
  cases h : s.testBit k <;> simp [pa_b]
theorem s_words (a : Int32) (post : Int32 → Prop) : w_X5_wordsOfKind a post ↔ post (a + 1) := by unfold w_X5_wordsOfKind; exact Iff.rfl
theorem s_sets {n : Nat} (hn : n < 7) (post : Int32 → Prop) : w_X4_sets (nI n) post ↔ post (nI (2 ^ n)) := by
  unfold w_X4_sets; rw [pa_shl n hn]
theorem pa_all : ∀ n, n < 7 → (nI (2 ^ n) - (1 : Int32)) = nI (2 ^ n - 1) := by decide +kernel
theorem pa_p2 {n : Nat} (hn : n < 7) : 2 ^ n ≤ 64 := by
  have : ∀ n, n < 7 → 2 ^ n ≤ 64 := by decide
  exact this n hn
theorem pa_p1 (n : Nat) : 1 ≤ 2 ^ n := Nat.one_le_two_pow
theorem s_allT {n : Nat} (hn : n < 7) (post : Int32 → Prop) : w_X4_allThings (nI n) post ↔ post (nI (2 ^ n - 1)) := by
  unfold w_X4_allThings; rw [s_sets hn, pa_all n hn]
theorem s_all {n : Nat} (hn : n < 7) (post : Int32 → Prop) : w_X6_all (nI n) post ↔ post (nI (2 ^ n - 1)) := by
  unfold w_X6_all; rw [pa_shl n hn, pa_all n hn]
theorem pa_split (x m : Int32) : x = (x &&& m) ||| (x &&& (m ^^^ (-1 : Int32))) := by
  apply Int32.toBitVec_inj.mp
  show x.toBitVec = (x.toBitVec &&& m.toBitVec) ||| (x.toBitVec &&& (m.toBitVec ^^^ BitVec.allOnes 32))
  apply BitVec.eq_of_getLsbD_eq
  intro i hi
  rw [BitVec.getLsbD_or, BitVec.getLsbD_and, BitVec.getLsbD_and, BitVec.getLsbD_xor, BitVec.getLsbD_allOnes]
  simp only [hi, decide_true]
  cases x.toBitVec.getLsbD i <;> cases m.toBitVec.getLsbD i <;> rfl
theorem pa_setIn : ∀ n, n < 7 → ∀ j, j < 2 ^ n → (nI j &&& (nI (2 ^ n - 1) ^^^ (-1 : Int32))) = 0 := by decide +kernel
theorem pa_mk : ∀ n, n < 7 → (nI (2 ^ n - 1)).toBitVec.toNat = 2 ^ n - 1 := by decide +kernel
theorem pa_isSet {n : Nat} (hn : n < 7) (x : Int32) : (x &&& (nI (2 ^ n - 1) ^^^ (-1 : Int32))) = 0 ↔ 0 ≤ x.toInt ∧ x.toInt < (2 ^ n : Nat) := by
  constructor
  · intro h
    have e := pa_split x (nI (2 ^ n - 1))
    rw [h, pk_and x n (pa_mk n hn), pa_zero, pa_or, Nat.or_zero] at e
    have h2 : x.toBitVec.toNat % 2 ^ n < 2 ^ n := Nat.mod_lt _ (pa_p1 n)
    have h3 := pa_p2 hn
    rw [e, pa_nI _ (by omega)]
    omega
  · rintro ⟨h0, h1⟩
    obtain ⟨k, hk, rfl⟩ := pa_of h0 h1 (by have := pa_p2 hn; omega)
    exact pa_setIn n hn k hk
theorem s_isSet {n : Nat} (hn : n < 7) (x : Int32) (post : Int32 → Prop) : w_X4_isSet (nI n) x post ↔ post (pa_b (decide (0 ≤ x.toInt ∧ x.toInt < (2 ^ n : Nat)))) := by
  unfold w_X4_isSet
  rw [s_allT hn]
  simp only [pa_isSet hn]
  by_cases h : 0 ≤ x.toInt ∧ x.toInt < (2 ^ n : Nat) <;> simp only [h, pa_b] <;> simp
theorem s_isOfThings {n : Nat} (hn : n < 7) (x : Int32) (post : Int32 → Prop) : w_X6_isOfThings (nI n) x post ↔ post (pa_b (decide (0 ≤ x.toInt ∧ x.toInt < (2 ^ n : Nat)))) := by
  unfold w_X6_isOfThings
  rw [s_all hn, s_in, pa_i64, pa_i64, pa_nI _ (by have := pa_p2 hn; omega)]
  have e : ((0 : Int64).toInt ≤ x.toInt ∧ x.toInt ≤ ((2 ^ n - 1 : Nat) : Int)) ↔ (0 ≤ x.toInt ∧ x.toInt < (2 ^ n : Nat)) := by
    have := pa_p1 n
    rw [show (0 : Int64).toInt = 0 from rfl]
    omega
  simp only [e]
  exact ⟨fun h => h.2, fun h => ⟨pa_z _, h⟩⟩
theorem pa_neg {P : Int32 → Prop} {c : Bool} : ((¬ pa_b c = 0 → P 0) ∧ (pa_b c = 0 → P 1)) ↔ P (pa_b (!c)) := by
  cases c <;> simp [pa_b]
theorem s_noHour (a : Int32) (post : Int32 → Prop) : w_X6_noHour a post ↔ post (pa_b (!decide (0 ≤ a.toInt ∧ a.toInt < 6))) := by
  unfold w_X6_noHour
  rw [s_in, pa_i64, pa_neg]
  have e : decide ((0 : Int64).toInt ≤ a.toInt ∧ a.toInt ≤ (5 : Int64).toInt) = decide (0 ≤ a.toInt ∧ a.toInt < 6) := by
    rw [show (0 : Int64).toInt = 0 from rfl, show (5 : Int64).toInt = 5 from rfl]
    exact decide_eq_decide.mpr (by omega)
  rw [e]
theorem s_noSheet (a : Int32) (post : Int32 → Prop) : w_X6_noSheet a post ↔ post (pa_b (!decide (0 ≤ a.toInt ∧ a.toInt < 4))) := by
  unfold w_X6_noSheet
  rw [s_in, pa_i64, pa_neg]
  have e : decide ((0 : Int64).toInt ≤ a.toInt ∧ a.toInt ≤ (3 : Int64).toInt) = decide (0 ≤ a.toInt ∧ a.toInt < 4) := by
    rw [show (0 : Int64).toInt = 0 from rfl, show (3 : Int64).toInt = 3 from rfl]
    exact decide_eq_decide.mpr (by omega)
  rw [e]
theorem s_noThing {n : Nat} (hn : n < 7) (a : Int32) (post : Int32 → Prop) : w_X6_noThing (nI n) a post ↔ post (pa_b (!decide (0 ≤ a.toInt ∧ a.toInt < n))) := by
  unfold w_X6_noThing
  rw [s_in, pa_i64, pa_neg]
  have e : decide ((0 : Int64).toInt ≤ a.toInt ∧ a.toInt ≤ ((nI n).toInt64 - (1 : Int64)).toInt) = decide (0 ≤ a.toInt ∧ a.toInt < n) := by
    have : ∀ n, n < 7 → ((nI n).toInt64 - (1 : Int64)).toInt = (n : Int) - 1 := by decide +kernel
    rw [show (0 : Int64).toInt = 0 from rfl, this n hn]
    exact decide_eq_decide.mpr (by omega)
  rw [e]
theorem s_isThing {n : Nat} (hn : n < 7) (a : Int32) (post : Int32 → Prop) : w_X4_isThing (nI n) a post ↔ post (pa_b (decide (0 ≤ a.toInt ∧ a.toInt < n))) :=
  pa_3 (by rw [decide_eq_true_iff, pa_l0, pa_ge (m := 6) (k := 6) rfl, pa_ge (m := nI n) (k := n) (pa_nI n (by omega))]; omega)
theorem s_hasTown {n : Nat} (hn : n < 7) (post : Int32 → Prop) : w_X5_hasTown (nI n) post ↔ post (pa_b (decide (0 < n))) :=
  pa_1 (by rw [decide_eq_true_iff, pa_le0, pa_nI n (by omega)]; omega)
