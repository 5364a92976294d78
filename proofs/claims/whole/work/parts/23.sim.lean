theorem bm32 {z : Int} (h1 : -2147483648 ≤ z) (h2 : z < 2147483648) : z.bmod (2 ^ 32) = z := Int.bmod_eq_of_le (by omega) (by omega)
theorem flm8 (b : Int32) : f_J9_floorMod_7cf53 b 8 = b &&& 7 := by
  have hz1 := Int32.le_toInt b
  have hz2 := Int32.toInt_lt b
  have t8 : (8 : Int32).toInt = 8 := rfl
  have hd : (b / 8).toInt = b.toInt.tdiv 8 := Int32.toInt_div_of_ne_right b 8 (by decide)
  have hq : b.toInt.tdiv 8 * 8 = if 0 ≤ b.toInt then b.toInt / 8 * 8 else -((-b.toInt) / 8 * 8) := by
    split
    · rename_i c
      rw [Int.tdiv_eq_ediv_of_nonneg c]
    · rename_i c
      have e : b.toInt.tdiv 8 = -((-b.toInt).tdiv 8) := by rw [Int.neg_tdiv]; omega
      rw [e, Int.tdiv_eq_ediv_of_nonneg (by omega)]
      omega
  have hm : (b / 8 * 8).toInt = b.toInt.tdiv 8 * 8 := by
    rw [Int32.toInt_mul, hd, t8]
    apply bm32
    · rw [hq]; split <;> omega
    · rw [hq]; split <;> omega
  have hr : (b - b / 8 * 8).toInt = b.toInt - b.toInt.tdiv 8 * 8 := by
    rw [Int32.toInt_sub, hm]
    apply bm32
    · rw [hq]; split <;> omega
    · rw [hq]; split <;> omega
  have hx : (0 : Int32) ≤ b ^^^ 8 ↔ 0 ≤ b.toInt := by
    rw [i_le, ti0]
    have e1 : (b ^^^ 8).toInt = (b.toBitVec ^^^ (8 : Int32).toBitVec).toInt := rfl
    have m1 : (b.toBitVec ^^^ (8 : Int32).toBitVec).msb = b.toBitVec.msb := by
      rw [BitVec.msb_xor]
      have : (8 : Int32).toBitVec.msb = false := by decide
      rw [this]
      simp
    rw [BitVec.msb_eq_toInt, BitVec.msb_eq_toInt] at m1
    have m2 := decide_eq_decide.mp m1
    rw [e1]
    have e2 : b.toInt = b.toBitVec.toInt := rfl
    rw [e2]
    omega
  have hnat : (b.toBitVec.toNat : Int) = if 0 ≤ b.toInt then b.toInt else b.toInt + 4294967296 := by
    have e2 : b.toInt = b.toBitVec.toInt := rfl
    have e3 := BitVec.toInt_eq_toNat_cond b.toBitVec
    have e4 := b.toBitVec.isLt
    rw [e2, e3]
    split <;> split <;> omega
  have ha : b &&& 7 = nI (b.toBitVec.toNat % 2 ^ 3) := pk_and b 3 rfl
  have hat : (b &&& 7).toInt = ((b.toBitVec.toNat % 8 : Nat) : Int) := by
    rw [ha]
    exact nI_toInt (by omega)
  apply Int32.toInt_inj.mp
  rw [hat]
  unfold f_J9_floorMod_7cf53
  by_cases c : 0 ≤ b.toInt
  · rw [if_pos (hx.mpr c), hr, hq, if_pos c]
    rw [if_pos c] at hnat
    omega
  · rw [if_neg (fun q => c (hx.mp q))]
    rw [if_neg c] at hnat
    by_cases c2 : b - b / 8 * 8 = 0
    · have hr0 := hr
      rw [c2, ti0, hq, if_neg c] at hr0
      rw [if_pos c2, c2, ti0]
      omega
    · have hr0 : ¬ (b - b / 8 * 8).toInt = 0 := fun q => c2 (Int32.toInt_inj.mp (q.trans ti0.symm))
      rw [hr, hq, if_neg c] at hr0
      rw [if_neg c2, Int32.toInt_add, hr, hq, if_neg c, t8, bm32 (by omega) (by omega)]
      omega
theorem safeIn_fm {b : Int32} {σ : Sg} : f_X4_safeIn (f_J9_floorMod_7cf53 b 8) σ = σ 1 (b &&& 7).toNatClampNeg := by
  rw [flm8]
  exact safeIn_at (and7 b)
/-- doStep, put in order -/
def dsp (rec : RecT) (p : Nat) (a b kd u v : Int32) (σ : Sg) : Int32 × Sg :=
  if kd = 0 then F_X4_doInside rec (f_X4_safeIn u σ) p (a + 1) b σ else if kd = 1 then F_X4_doTry rec u p (a + 1) b σ else if kd = 2 then f_X4_doWithSafe kd (f_X4_safeIn u σ) v σ else if kd = 3 then f_X4_doWithSafe kd (f_X4_safeIn u σ) v σ else if kd = 4 then f_X4_doWithSafe kd (f_X4_safeIn u σ) v σ
  else if kd = 5 then f_X4_doWithRooms kd u v σ else if kd = 6 then f_X4_doWithRooms kd u v σ else if kd = 7 then f_X4_doWithSafe kd (f_X4_safeIn u σ) v σ else if kd = 8 then f_X4_doWithValue kd u σ else if kd = 9 then f_X4_doWithValue kd u σ else if kd = 10 then f_X4_doWithValue kd u σ else if kd = 11 then f_X4_doWithValue kd u σ
  else if kd = 12 then F_X4_doPlan rec u σ else if kd = 13 then f_X4_doWithRooms kd u v σ else f_X4_doWithSafe kd (f_X4_safeIn u σ) v σ
abbrev sgS (p : Nat) (a : Int32) (σ : Sg) : Sg := f_X4_leaveInTrace (100 + (σ (10 + 3 * p + 0) a.toNatClampNeg)) (up2 σ 0 5 ((σ 0 5) + 1))
theorem doStep_eq (rec : RecT) (p : Nat) (a b : Int32) (σ : Sg) : F_X4_doStep rec p a b σ = if σ 0 5 < 200 then dsp rec p a b (σ (10 + 3 * p + 0) a.toNatClampNeg) (σ (10 + 3 * p + 1) a.toNatClampNeg) (sgS p a σ (10 + 3 * p + 2) a.toNatClampNeg) (sgS p a σ) else (40, σ) := rfl
