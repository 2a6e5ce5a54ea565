/-! BITS of sets -/
theorem fin32 {k : Nat} (h : k < 32) {p : Nat → Prop} (hp : ∀ i : Fin 32, p i.val) : p k := hp ⟨k, h⟩
theorem sh1_bv {k : Nat} (h : k < 32) : (nI 1 <<< (nI k &&& 31)).toBitVec = BitVec.twoPow 32 k := fin32 (p := fun k => (nI 1 <<< (nI k &&& 31)).toBitVec = BitVec.twoPow 32 k) h (by decide +kernel)
theorem shn_bv {k : Nat} (h : k < 32) : ((nI k).toUInt32 &&& Int32.toUInt32 31).toBitVec = BitVec.ofNat 32 k := fin32 (p := fun k => ((nI k).toUInt32 &&& Int32.toUInt32 31).toBitVec = BitVec.ofNat 32 k) h (by decide +kernel)
theorem bt_lt {x : Int32} {i : Nat} (h : bt x i = true) : i < 32 := by
  unfold bt at h
  exact BitVec.lt_of_getLsbD h
theorem bt_ext {x y : Int32} (h : ∀ i, i < 32 → bt x i = bt y i) : x = y := by
  apply Int32.toBitVec_inj.mp
  exact BitVec.eq_of_getLsbD_eq (fun i hi => h i hi)
theorem bt_and (x y : Int32) (i : Nat) : bt (x &&& y) i = (bt x i && bt y i) := by
  unfold bt
  rw [Int32.toBitVec_and, BitVec.getLsbD_and]
theorem bt_or (x y : Int32) (i : Nat) : bt (x ||| y) i = (bt x i || bt y i) := by
  unfold bt
  rw [Int32.toBitVec_or, BitVec.getLsbD_or]
theorem bt_xor (x y : Int32) (i : Nat) : bt (x ^^^ y) i = (bt x i ^^ bt y i) := by
  unfold bt
  rw [Int32.toBitVec_xor, BitVec.getLsbD_xor]
theorem bt_m1 {i : Nat} (h : i < 32) : bt (-1) i = true := fin32 (p := fun i => bt (-1) i = true) h (by decide +kernel)
theorem bt_0 (i : Nat) : bt (nI 0) i = false := by
  unfold bt
  rw [show (nI 0).toBitVec = 0#32 from by decide +kernel, BitVec.getLsbD_zero]
theorem bt_one {k : Nat} (h : k < 32) (i : Nat) : bt (nI 1 <<< (nI k &&& 31)) i = decide (i = k) := by
  unfold bt
  rw [sh1_bv h, BitVec.getLsbD_twoPow]
  by_cases hk : i = k
  · subst hk; simp [h]
  · simp [hk, Ne.symm hk]
theorem bt_with {x : Int32} {k : Nat} {c : Bool} (h : k < 32) (i : Nat) : bt (sWith x (nI k) c) i = if i = k then c else bt x i := by
  unfold sWith
  cases c with
  | true =>
    simp only [cond_true]
    rw [bt_or, bt_one h]
    by_cases hk : i = k <;> simp [hk]
  | false =>
    simp only [cond_false]
    rw [bt_and, bt_xor, bt_one h]
    by_cases hk : i = k
    · subst hk
      rw [bt_m1 h]
      simp
    · by_cases hi : i < 32
      · rw [bt_m1 hi]
        simp [hk]
      · have e : bt x i = false := by
          cases hb : bt x i with
          | false => rfl
          | true => exact absurd (bt_lt hb) hi
        rw [e]
        simp [hk]
theorem nI1_and {x : Int32} : (x &&& nI 1 = nI 1) ↔ bt x 0 = true := by
  constructor
  · intro h
    have h1 : bt (x &&& nI 1) 0 = bt (nI 1) 0 := by rw [h]
    rw [bt_and, show bt (nI 1) 0 = true from by decide +kernel] at h1
    simpa using h1
  · intro h
    apply bt_ext
    intro i hi
    rw [bt_and]
    by_cases h0 : i = 0
    · subst h0; rw [h]; rfl
    · have e : bt (nI 1) i = false := by
        have h2 := bt_one (k := 0) (by omega) i
        rw [show nI 1 <<< (nI 0 &&& 31) = nI 1 from by decide +kernel] at h2
        rw [h2]
        exact decide_eq_false h0
      rw [e]
      simp
theorem sBit_bt {x : Int32} {k : Nat} (h : k < 32) : sBit x (nI k) = bt x k := by
  unfold sBit
  have e : ((x.toUInt32 >>> ((nI k).toUInt32 &&& Int32.toUInt32 31)).toInt32 &&& nI 1 = nI 1) ↔ bt x k = true := by
    rw [nI1_and]
    have e2 : bt (x.toUInt32 >>> ((nI k).toUInt32 &&& Int32.toUInt32 31)).toInt32 0 = bt x k := by
      unfold bt
      rw [show (x.toUInt32 >>> ((nI k).toUInt32 &&& Int32.toUInt32 31)).toInt32.toBitVec = (x.toUInt32 >>> ((nI k).toUInt32 &&& Int32.toUInt32 31)).toBitVec from rfl, UInt32.toBitVec_shiftRight, shn_bv h]
      rw [show x.toUInt32.toBitVec = x.toBitVec from rfl]
      rw [show (BitVec.ofNat 32 k % 32) = BitVec.ofNat 32 k from fin32 (p := fun k => (BitVec.ofNat 32 k % 32) = BitVec.ofNat 32 k) h (by decide +kernel)]
      rw [BitVec.ushiftRight_eq', BitVec.getLsbD_ushiftRight, BitVec.toNat_ofNat, Nat.mod_eq_of_lt (by omega)]
      rfl
    rw [e2]
  cases hb : bt x k with
  | true => exact decide_eq_true (e.mpr hb)
  | false => exact decide_eq_false (fun hh => by rw [e.mp hh] at hb; cases hb)
theorem sub_iff {x y : Int32} : (x &&& (y ^^^ (-1))) = 0 ↔ ∀ i, bt x i = true → bt y i = true := by
  constructor
  · intro h i hi
    have h1 : bt (x &&& (y ^^^ (-1))) i = bt (0 : Int32) i := by rw [h]
    rw [bt_and, bt_xor, hi, bt_m1 (bt_lt hi), show (0 : Int32) = nI 0 from by decide +kernel, bt_0] at h1
    cases hy : bt y i with
    | true => rfl
    | false => rw [hy] at h1; cases h1
  · intro h
    rw [show (0 : Int32) = nI 0 from by decide +kernel]
    apply bt_ext
    intro i hi
    rw [bt_and, bt_xor, bt_m1 hi, bt_0]
    cases hx : bt x i with
    | false => rfl
    | true => rw [h i hx]; rfl
theorem and_ne0 {x y : Int32} : ¬ (x &&& y) = 0 ↔ ∃ i, bt x i = true ∧ bt y i = true := by
  constructor
  · intro h
    apply Classical.byContradiction
    intro hn
    apply h
    rw [show (0 : Int32) = nI 0 from by decide +kernel]
    apply bt_ext
    intro i hi
    rw [bt_and, bt_0]
    cases hx : bt x i with
    | false => rfl
    | true =>
      cases hy : bt y i with
      | false => rfl
      | true => exact absurd ⟨i, hx, hy⟩ hn
  · rintro ⟨i, h1, h2⟩ h
    have h3 : bt (x &&& y) i = bt (0 : Int32) i := by rw [h]
    rw [bt_and, h1, h2, show (0 : Int32) = nI 0 from by decide +kernel, bt_0] at h3
    cases h3
theorem ud_at (X : Nat → Nat → Int32) (c k : Nat) (v : Int32) (i j : Nat) : ud X c k v i j = if i = c then (if j = k then v else X i j) else X i j := by
  unfold ud uc
  by_cases h : i = c
  · subst h; simp [u1]
  · simp [h]
theorem isN_iff {v : Int32} {B : Nat} (hB : B < 2 ^ 31) : isN v B ↔ ∃ n, n ≤ B ∧ v = nI n := by
  constructor
  · intro h; exact ⟨nN v, h.2, h.1⟩
  · rintro ⟨n, h1, rfl⟩; exact isN.of h1 hB
theorem isN.mono {v : Int32} {B C : Nat} (h : isN v B) (hBC : B ≤ C) : isN v C := ⟨h.1, Nat.le_trans h.2 hBC⟩
