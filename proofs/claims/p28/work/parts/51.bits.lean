/-! ===== Int32 by its bits: bt x i ===== -/
def bt (x : Int32) (i : Nat) : Bool := x.toBitVec.getLsbD i
theorem b_ext {x y : Int32} (h : ∀ i, i < 32 → bt x i = bt y i) : x = y := Int32.toBitVec_inj.mp (BitVec.eq_of_getLsbD_eq (fun i hi => h i hi))
theorem b_or (x y : Int32) (i : Nat) : bt (x ||| y) i = (bt x i || bt y i) := by unfold bt; rw [Int32.toBitVec_or, BitVec.getLsbD_or]
theorem b_and (x y : Int32) (i : Nat) : bt (x &&& y) i = (bt x i && bt y i) := by unfold bt; rw [Int32.toBitVec_and, BitVec.getLsbD_and]
theorem b_xor (x y : Int32) (i : Nat) : bt (x ^^^ y) i = (bt x i ^^ bt y i) := by unfold bt; rw [Int32.toBitVec_xor, BitVec.getLsbD_xor]
theorem b_big {x : Int32} {i : Nat} (h : 32 ≤ i) : bt x i = false := BitVec.getLsbD_of_ge _ _ h
theorem b_255 (i : Nat) : bt 255 i = decide (i < 8) := by
  rcases Nat.lt_or_ge i 32 with h | h
  · exact (by decide +kernel : ∀ i, i < 32 → bt 255 i = decide (i < 8)) i h
  · rw [b_big h, decide_eq_false (by omega)]
theorem b_65535 (i : Nat) : bt 65535 i = decide (i < 16) := by
  rcases Nat.lt_or_ge i 32 with h | h
  · exact (by decide +kernel : ∀ i, i < 32 → bt 65535 i = decide (i < 16)) i h
  · rw [b_big h, decide_eq_false (by omega)]
theorem b_m1 : ∀ i, i < 32 → bt (-1) i = true := by decide +kernel
theorem b_0 (i : Nat) : bt 0 i = false := BitVec.getLsbD_zero
theorem s_l : ∀ n, n < 32 → ((nI n &&& 31).toBitVec.smod 32).toNat = n := by decide +kernel
theorem s_u : ∀ n, n < 32 → (((nI n).toUInt32 &&& Int32.toUInt32 31).toBitVec % 32).toNat = n := by decide +kernel
theorem b_shl (n : Nat) (hn : n < 32) (x : Int32) {i : Nat} (hi : i < 32) : bt (x <<< (nI n &&& 31)) i = (decide (n ≤ i) && bt x (i - n)) := by
  unfold bt
  rw [Int32.toBitVec_shiftLeft]
  show (x.toBitVec <<< ((nI n &&& 31).toBitVec.smod 32).toNat).getLsbD i = _
  rw [s_l n hn, BitVec.getLsbD_shiftLeft]
  rcases Nat.lt_or_ge i n with h | h
  · simp [h, Nat.not_le.mpr h]
  · simp [hi, h, Nat.not_lt.mpr h]
theorem b_ushr (n : Nat) (hn : n < 32) (x : Int32) (i : Nat) : bt ((x.toUInt32 >>> ((nI n).toUInt32 &&& Int32.toUInt32 31)).toInt32) i = bt x (n + i) := by
  show (x.toUInt32 >>> ((nI n).toUInt32 &&& Int32.toUInt32 31)).toBitVec.getLsbD i = x.toUInt32.toBitVec.getLsbD (n + i)
  rw [UInt32.toBitVec_shiftRight]
  show (x.toUInt32.toBitVec >>> (((nI n).toUInt32 &&& Int32.toUInt32 31).toBitVec % 32).toNat).getLsbD i = _
  rw [s_u n hn, BitVec.getLsbD_ushiftRight]
theorem b_sshr (n : Nat) (hn : n < 32) (x : Int32) {i : Nat} (hi : i < 32) : bt (x >>> (nI n &&& 31)) i = if n + i < 32 then bt x (n + i) else bt x 31 := by
  unfold bt
  rw [Int32.toBitVec_shiftRight]
  show (x.toBitVec.sshiftRight ((nI n &&& 31).toBitVec.smod 32).toNat).getLsbD i = _
  rw [s_l n hn, BitVec.getLsbD_sshiftRight, BitVec.msb_eq_getLsbD_last]
  simp [hi]
theorem b_shl8 (x : Int32) {i : Nat} (hi : i < 32) : bt (x <<< ((8 : Int32) &&& 31)) i = (decide (8 ≤ i) && bt x (i - 8)) := b_shl 8 (by omega) x hi
theorem b_shl16 (x : Int32) {i : Nat} (hi : i < 32) : bt (x <<< ((16 : Int32) &&& 31)) i = (decide (16 ≤ i) && bt x (i - 16)) := b_shl 16 (by omega) x hi
theorem b_shl24 (x : Int32) {i : Nat} (hi : i < 32) : bt (x <<< ((24 : Int32) &&& 31)) i = (decide (24 ≤ i) && bt x (i - 24)) := b_shl 24 (by omega) x hi
theorem b_sshr8 (x : Int32) {i : Nat} (hi : i < 32) : bt (x >>> ((8 : Int32) &&& 31)) i = if 8 + i < 32 then bt x (8 + i) else bt x 31 := b_sshr 8 (by omega) x hi
/-! ===== mine: the class's words for bits ===== -/
theorem b_1 (i : Nat) : bt 1 i = decide (i = 0) := by
  rcases Nat.lt_or_ge i 32 with h | h
  · exact (by decide +kernel : ∀ i, i < 32 → bt 1 i = decide (i = 0)) i h
  · rw [b_big h, decide_eq_false (by omega)]
theorem nI_lt0 {a : Nat} (h : a < 2 ^ 31) : ¬ nI a < 0 := nI_pos h
theorem kbit_nI {a : Nat} (h : a < 30) : kbit (nI a) = 1 <<< (nI a &&& 31) := by
  unfold kbit
  rw [if_neg (nI_lt0 (by omega)), if_neg (show ¬ (30 : Int32) ≤ nI a from nI_ge (b := 30) h (by decide))]
theorem kbit_b {a k : Nat} (h : a < 30) (hk : k < 32) : bt (kbit (nI a)) k = decide (a = k) := by
  rw [kbit_nI h, b_shl a (by omega) 1 hk, b_1]
  by_cases e : a = k
  · subst e; simp
  · by_cases e2 : a ≤ k
    · rw [decide_eq_true e2, decide_eq_false e, decide_eq_false (by omega)]; rfl
    · rw [decide_eq_false e2, decide_eq_false e]; rfl
theorem b_eq0 {x : Int32} : x = 0 ↔ ∀ k, k < 32 → bt x k = false := ⟨fun h k _ => by rw [h, b_0], fun h => b_ext (fun k hk => by rw [h k hk, b_0])⟩
theorem khas_nI {z : Int32} {a : Nat} (h : a < 30) : khas z (nI a) = bt z a := by
  have e : (z &&& kbit (nI a)) = 0 ↔ bt z a = false := by
    rw [b_eq0]
    constructor
    · intro hk
      have := hk a (by omega)
      rw [b_and, kbit_b h (by omega), decide_eq_true rfl, Bool.and_true] at this
      exact this
    · intro hz k hk
      rw [b_and, kbit_b h hk]
      by_cases e : a = k
      · subst e; rw [hz]; rfl
      · rw [decide_eq_false e, Bool.and_false]
  unfold khas
  cases hb : bt z a with
  | false => rw [decide_eq_false]; exact fun hn => hn (e.mpr hb)
  | true => rw [decide_eq_true]; exact fun hn => by rw [e.mp hn] at hb; cases hb
theorem khas_out {z i : Int32} (h : i < 0 ∨ 30 ≤ i) : khas z i = false := by
  have e : kbit i = 0 := by
    unfold kbit
    rcases h with h | h
    · rw [if_pos h]
    · by_cases h0 : i < 0
      · rw [if_pos h0]
      · rw [if_neg h0, if_pos h]
  unfold khas
  rw [e, decide_eq_false]
  intro hn
  exact hn (b_ext (fun k _ => by rw [b_and, b_0, Bool.and_false]))
theorem khas_in {z i : Int32} (h : khas z i = true) : ∃ a, a < 30 ∧ i = nI a ∧ bt z a = true := by
  by_cases h0 : i < 0
  · rw [khas_out (Or.inl h0)] at h; cases h
  · by_cases h1 : 30 ≤ i
    · rw [khas_out (Or.inr h1)] at h; cases h
    · rcases pk_ix i (show 30 < 2 ^ 31 by decide) with h2 | h2 | ⟨a, ha, rfl⟩
      · exact absurd h2 h0
      · exact absurd h2 h1
      · rw [khas_nI ha] at h
        exact ⟨a, ha, rfl, h⟩
theorem kat_nI {n : Nat} {f : Nat → Int32} {a : Nat} (h : a < n) (hn : n < 2 ^ 31) : kat n f (nI a) = f a := by
  unfold kat
  rw [if_neg (nI_lt0 (by omega)), if_neg (nI_ge h hn), nI_clamp (by omega)]
theorem kput_nI {n : Nat} {f : Nat → Int32} {a : Nat} {v : Int32} (h : a < n) (hn : n < 2 ^ 31) : kput n f (nI a) v = upd f a v := by
  unfold kput
  rw [if_neg (nI_lt0 (by omega)), if_neg (nI_ge h hn), nI_clamp (by omega)]
theorem b_sar {z : Int32} {a : Nat} (h : a < 32) : (z >>> (nI a &&& 31)) &&& 1 = nB (bt z a) := by
  apply b_ext
  intro k hk
  rw [b_and, b_1, b_sshr a h z hk]
  by_cases e : k = 0
  · subst e
    rw [decide_eq_true rfl, Bool.and_true, Nat.add_zero, if_pos h]
    cases bt z a <;> decide
  · rw [decide_eq_false e, Bool.and_false]
    cases bt z a with
    | false => exact (b_0 k).symm
    | true => show false = bt 1 k; rw [b_1, decide_eq_false e]
theorem nB_nI (b : Bool) : nB b = nI (if b then 1 else 0) := by cases b <;> rfl
theorem kin_of {i : Int32} (h0 : ¬ i < 0) (h1 : ¬ 29 < i) : ∃ a, a < 30 ∧ i = nI a := by
  rcases pk_ix i (show 30 < 2 ^ 31 by decide) with h2 | h2 | ⟨a, ha, rfl⟩
  · exact absurd h2 h0
  · exfalso
    rw [Int32.lt_iff_toInt_lt] at h1
    rw [Int32.le_iff_toInt_le] at h2
    have e1 : (29 : Int32).toInt = 29 := by decide
    have e2 : (nI 30).toInt = 30 := by decide
    omega
  · exact ⟨a, ha, rfl⟩
section KT
variable {p : Program} {l : Launch} {e : Env} {R : Room} {s : State} {m : MethodId} {args : Array Value} {below : List Frame} {meth : Method} {c : Code} {H : Heap} {locs : List Loc} {cells slots : Nat} {Q : State → Prop} {pc : Nat} {ls : Array Slot} {rest : List Value}
/-- the value on top, written otherwise -/
theorem kx_top {x y : Int32} (h : x = y) (k : W p l e R s m args below meth c H locs cells slots Q (F0 m pc ls (.int y :: rest))) : W p l e R s m args below meth c H locs cells slots Q (F0 m pc ls (.int x :: rest)) := by
  subst h; exact k
end KT
