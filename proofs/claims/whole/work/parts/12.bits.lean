/-! bits (the first rows as kit/laws/BITS.to-paste has them) -/
def bt (x : Int32) (i : Nat) : Bool := x.toBitVec.getLsbD i
theorem b_ext {x y : Int32} (h : ∀ i, i < 32 → bt x i = bt y i) : x = y := Int32.toBitVec_inj.mp (BitVec.eq_of_getLsbD_eq (fun i hi => h i hi))
theorem b_or (x y : Int32) (i : Nat) : bt (x ||| y) i = (bt x i || bt y i) := by unfold bt; rw [Int32.toBitVec_or, BitVec.getLsbD_or]
theorem b_and (x y : Int32) (i : Nat) : bt (x &&& y) i = (bt x i && bt y i) := by unfold bt; rw [Int32.toBitVec_and, BitVec.getLsbD_and]
theorem b_xor (x y : Int32) (i : Nat) : bt (x ^^^ y) i = (bt x i ^^ bt y i) := by unfold bt; rw [Int32.toBitVec_xor, BitVec.getLsbD_xor]
theorem b_big {x : Int32} {i : Nat} (h : 32 ≤ i) : bt x i = false := BitVec.getLsbD_of_ge _ _ h
theorem b_m1 : ∀ i, i < 32 → bt (-1) i = true := by decide +kernel
theorem b_0 (i : Nat) : bt 0 i = false := BitVec.getLsbD_zero
theorem s_l : ∀ n, n < 32 → ((nI n &&& 31).toBitVec.smod 32).toNat = n := by decide +kernel
theorem b_shl (n : Nat) (hn : n < 32) (x : Int32) {i : Nat} (hi : i < 32) : bt (x <<< (nI n &&& 31)) i = (decide (n ≤ i) && bt x (i - n)) := by
  unfold bt
  rw [Int32.toBitVec_shiftLeft]
  show (x.toBitVec <<< ((nI n &&& 31).toBitVec.smod 32).toNat).getLsbD i = _
  rw [s_l n hn, BitVec.getLsbD_shiftLeft]
  rcases Nat.lt_or_ge i n with h | h
  · simp [h, Nat.not_le.mpr h]
  · simp [hi, h, Nat.not_lt.mpr h]
theorem b_sshr (n : Nat) (hn : n < 32) (x : Int32) {i : Nat} (hi : i < 32) : bt (x >>> (nI n &&& 31)) i = if n + i < 32 then bt x (n + i) else bt x 31 := by
  unfold bt
  rw [Int32.toBitVec_shiftRight]
  show (x.toBitVec.sshiftRight ((nI n &&& 31).toBitVec.smod 32).toNat).getLsbD i = _
  rw [s_l n hn, BitVec.getLsbD_sshiftRight, BitVec.msb_eq_getLsbD_last]
  simp [hi]
theorem b_1 : ∀ i, i < 32 → bt 1 i = decide (i = 0) := by decide +kernel
def bb (b : Bool) : Int32 := if b then 1 else 0
theorem bs_one {n i : Nat} (hn : n < 32) (hi : i < 32) : bt ((1 : Int32) <<< (nI n &&& 31)) i = decide (i = n) := by
  rw [b_shl n hn _ hi]
  by_cases h : n ≤ i
  · rw [b_1 (i - n) (by omega)]
    by_cases e : i = n
    · subst e; simp
    · have : i - n ≠ 0 := by omega
      simp [e, this]
  · have : i ≠ n := by omega
    simp [h, this]
theorem bs_at (x : Int32) {i : Nat} (hi : i < 32) : (x >>> (nI i &&& 31)) &&& 1 = bb (bt x i) := by
  apply b_ext
  intro k hk
  rw [b_and, b_1 k hk, b_sshr i hi x hk]
  unfold bb
  by_cases h0 : k = 0
  · subst h0
    rw [Nat.add_zero, if_pos hi]
    cases bt x i
    · simp [b_0]
    · simp [b_1 0 (by decide)]
  · cases bt x i
    · simp [h0, b_0]
    · simp [h0, b_1 k hk]
def bI (f : Nat → Bool) : Nat → Int32
  | 0 => 0
  | n + 1 => if f n then bI f n ||| ((1 : Int32) <<< (nI n &&& 31)) else bI f n
theorem bI_bt (f : Nat → Bool) : ∀ n, n ≤ 32 → ∀ i, i < 32 → bt (bI f n) i = (decide (i < n) && f i)
  | 0, _, i, _ => by simp [bI, b_0]
  | n + 1, hn, i, hi => by
    have ih := bI_bt f n (by omega) i hi
    unfold bI
    by_cases hf : f n = true
    · rw [if_pos hf, b_or, ih, bs_one (by omega) hi]
      by_cases e : i = n
      · subst e; simp [hf]
      · by_cases l : i < n
        · simp [e, l, Nat.lt_succ_of_lt l]
        · simp [e, l, show ¬ i < n + 1 by omega]
    · rw [if_neg hf, ih]
      by_cases e : i = n
      · subst e; simp [hf]
      · by_cases l : i < n
        · simp [l, Nat.lt_succ_of_lt l]
        · simp [l, show ¬ i < n + 1 by omega]
theorem bI_congr {f g : Nat → Bool} {n : Nat} (h : ∀ i, i < n → f i = g i) : bI f n = bI g n := by
  induction n with
  | zero => rfl
  | succ n ih =>
    unfold bI
    rw [ih (fun i hi => h i (by omega)), h n (by omega)]
theorem bI_or {f g : Nat → Bool} {n : Nat} (hn : n ≤ 32) : bI f n ||| bI g n = bI (fun i => f i || g i) n := by
  apply b_ext
  intro i hi
  rw [b_or, bI_bt f n hn i hi, bI_bt g n hn i hi, bI_bt _ n hn i hi]
  cases decide (i < n) <;> simp
theorem bI_full : ∀ n, n < 32 → ((1 : Int32) <<< (nI n &&& 31)) - 1 = bI (fun _ => true) n := by decide +kernel
theorem bI_eq {f g : Nat → Bool} {n : Nat} (hn : n ≤ 32) : bI f n = bI g n ↔ ∀ i, i < n → f i = g i := by
  constructor
  · intro h i hi
    have := congrArg (fun x => bt x i) h
    simp only [bI_bt f n hn i (by omega), bI_bt g n hn i (by omega), decide_eq_true hi, Bool.true_and] at this
    exact this
  · exact bI_congr
theorem bI_ge (f : Nat → Bool) {n : Nat} (hn : n < 31) : ¬ bI f n = -1 := by
  intro h
  have := congrArg (fun x => bt x 31) h
  simp only [bI_bt f n (by omega) 31 (by decide), b_m1 31 (by decide)] at this
  simp [show ¬ 31 < n by omega] at this
/-- all of the first n -/
def al (f : Nat → Bool) : Nat → Bool
  | 0 => true
  | n + 1 => al f n && f n
theorem al_iff {f : Nat → Bool} {n : Nat} : al f n = true ↔ ∀ i, i < n → f i = true := by
  induction n with
  | zero => simp [al]
  | succ n ih =>
    simp only [al, Bool.and_eq_true, ih]
    constructor
    · rintro ⟨h1, h2⟩ i hi
      by_cases e : i = n
      · rw [e]; exact h2
      · exact h1 i (by omega)
    · intro h
      exact ⟨fun i hi => h i (by omega), h n (by omega)⟩
theorem al_stop {f : Nat → Bool} {n i : Nat} (hi : i < n) (h : f i = false) : al f n = false := by
  cases hq : al f n with
  | false => rfl
  | true => rw [al_iff.mp hq i hi] at h; cases h
