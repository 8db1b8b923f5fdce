/-! The count of bits that adds them in pairs, fours and eights. -/
theorem kp_tb {p q i : Nat} (hp : p < 256) : (p + 256 * q).testBit i = if i < 8 then p.testBit i else q.testBit (i - 8) := by
  rw [show p + 256 * q = 2 ^ 8 * q + p by omega]
  exact Nat.testBit_two_pow_mul_add q hp i
theorem kp_and {p q c m : Nat} (hp : p < 256) (hc : c < 256) : (p + 256 * q) &&& (c + 256 * m) = (p &&& c) + 256 * (q &&& m) := by
  refine Nat.eq_of_testBit_eq (fun i => ?_)
  rw [Nat.testBit_and, kp_tb hp, kp_tb hc, kp_tb (Nat.and_lt_two_pow p (n := 8) hc)]
  by_cases h : i < 8
  · rw [if_pos h, if_pos h, if_pos h, Nat.testBit_and]
  · rw [if_neg h, if_neg h, if_neg h, Nat.testBit_and]
theorem kct_add {p : Nat → Bool} {a : Nat} : ∀ b, kct p (a + b) = kct p a + kct (fun k => p (a + k)) b := by
  intro b
  induction b with
  | zero => rfl
  | succ b ih =>
    show kct p (a + b) + _ = kct p a + (kct (fun k => p (a + k)) b + _)
    rw [ih]; exact Nat.add_assoc _ _ _
theorem kct_c {p q : Nat → Bool} : ∀ n, (∀ k, k < n → p k = q k) → kct p n = kct q n := by
  intro n
  induction n with
  | zero => exact fun _ => rfl
  | succ n ih => intro h; unfold kct; rw [ih (fun k hk => h k (by omega)), h n (by omega)]
theorem kcnt_c {z : Int32} : ∀ n, kcnt z n = kct (bt z) n := by
  intro n
  induction n with
  | zero => rfl
  | succ n ih => unfold kcnt kct; rw [ih]
def pA (x : Nat) : Nat := x - ((x / 2) &&& 85)
def pB (a : Nat) : Nat := (a &&& 51) + ((a / 4) &&& 51)
theorem kp_a : ∀ x, x < 256 → ∀ y, y < 2 → (x / 2 + 128 * y) &&& 85 = (x / 2) &&& 85 := by decide +kernel
theorem kp_b : ∀ x, x < 256 → ∀ y, y < 4 → (x / 4 + 64 * y) &&& 51 = (x / 4) &&& 51 := by decide +kernel
theorem kp_15 : ∀ s, s < 256 → s &&& 15 = s % 16 := by decide +kernel
theorem kp_x : ∀ x, x < 256 → (x / 2) &&& 85 ≤ x ∧ pA x < 256 ∧ pB (pA x) % 16 ≤ 4 ∧ pB (pA x) / 16 ≤ 4 ∧ pB (pA x) % 16 + pB (pA x) / 16 = kct x.testBit 8 := by decide +kernel
theorem kp_s1 {x0 x1 x2 x3 : Nat} (h0 : x0 < 256) (h1 : x1 < 256) (h2 : x2 < 256) (h3 : x3 < 256) : ((x0 + 256 * (x1 + 256 * (x2 + 256 * x3))) / 2) &&& 1431655765 = ((x0 / 2) &&& 85) + 256 * (((x1 / 2) &&& 85) + 256 * (((x2 / 2) &&& 85) + 256 * ((x3 / 2) &&& 85))) := by
  rw [show (x0 + 256 * (x1 + 256 * (x2 + 256 * x3))) / 2 = (x0 / 2 + 128 * (x1 % 2)) + 256 * ((x1 / 2 + 128 * (x2 % 2)) + 256 * ((x2 / 2 + 128 * (x3 % 2)) + 256 * (x3 / 2))) by omega, show 1431655765 = 85 + 256 * (85 + 256 * (85 + 256 * 85)) by decide, kp_and (by omega) (by decide), kp_and (by omega) (by decide), kp_and (by omega) (by decide), kp_a x0 h0 _ (by omega), kp_a x1 h1 _ (by omega), kp_a x2 h2 _ (by omega)]
theorem kp_s2 {x0 x1 x2 x3 : Nat} (h0 : x0 < 256) (h1 : x1 < 256) (h2 : x2 < 256) (h3 : x3 < 256) : ((x0 + 256 * (x1 + 256 * (x2 + 256 * x3))) / 4) &&& 858993459 = ((x0 / 4) &&& 51) + 256 * (((x1 / 4) &&& 51) + 256 * (((x2 / 4) &&& 51) + 256 * ((x3 / 4) &&& 51))) := by
  rw [show (x0 + 256 * (x1 + 256 * (x2 + 256 * x3))) / 4 = (x0 / 4 + 64 * (x1 % 4)) + 256 * ((x1 / 4 + 64 * (x2 % 4)) + 256 * ((x2 / 4 + 64 * (x3 % 4)) + 256 * (x3 / 4))) by omega, show 858993459 = 51 + 256 * (51 + 256 * (51 + 256 * 51)) by decide, kp_and (by omega) (by decide), kp_and (by omega) (by decide), kp_and (by omega) (by decide), kp_b x0 h0 _ (by omega), kp_b x1 h1 _ (by omega), kp_b x2 h2 _ (by omega)]
theorem kp_s3 {x0 x1 x2 x3 : Nat} (h0 : x0 < 256) (h1 : x1 < 256) (h2 : x2 < 256) (h3 : x3 < 256) : (x0 + 256 * (x1 + 256 * (x2 + 256 * x3))) &&& 858993459 = (x0 &&& 51) + 256 * ((x1 &&& 51) + 256 * ((x2 &&& 51) + 256 * (x3 &&& 51))) := by
  rw [show 858993459 = 51 + 256 * (51 + 256 * (51 + 256 * 51)) by decide, kp_and (by omega) (by decide), kp_and (by omega) (by decide), kp_and (by omega) (by decide)]
theorem kp_s4 {x0 x1 x2 x3 : Nat} (h0 : x0 < 256) (h1 : x1 < 256) (h2 : x2 < 256) (h3 : x3 < 256) : (x0 + 256 * (x1 + 256 * (x2 + 256 * x3))) &&& 252645135 = x0 % 16 + 256 * (x1 % 16 + 256 * (x2 % 16 + 256 * (x3 % 16))) := by
  rw [show 252645135 = 15 + 256 * (15 + 256 * (15 + 256 * 15)) by decide, kp_and (by omega) (by decide), kp_and (by omega) (by decide), kp_and (by omega) (by decide), kp_15 _ h0, kp_15 _ h1, kp_15 _ h2, kp_15 _ h3]
theorem kp_us (n k : Nat) (hn : n < 2 ^ 32) (hk : k < 32) : ((nI n).toUInt32 >>> ((nI k).toUInt32 &&& Int32.toUInt32 31)).toInt32 = nI (n / 2 ^ k) := pk_ushrN hn (nI k) k (s_u k hk)
theorem kp_bt {n j : Nat} (hj : j < 32) : bt (nI n) j = n.testBit j := by
  show (BitVec.ofNat 32 n).getLsbD j = _
  rw [BitVec.getLsbD_ofNat, decide_eq_true hj, Bool.true_and]
theorem kp_ad (a b : Nat) : nI a &&& nI b = nI (a &&& b) := b_ext (fun i hi => by rw [b_and, kp_bt hi, kp_bt hi, kp_bt hi, Nat.testBit_and])
theorem kp_of (x : Int32) : ∃ n, n < 2 ^ 32 ∧ x = nI n := ⟨x.toBitVec.toNat, x.toBitVec.isLt, b_ext (fun i hi => by rw [kp_bt hi, BitVec.testBit_toNat]; rfl)⟩
theorem kp_N {x0 x1 x2 x3 : Nat} (h0 : x0 < 256) (h1 : x1 < 256) (h2 : x2 < 256) (h3 : x3 < 256) : kpop (nI (x0 + 256 * (x1 + 256 * (x2 + 256 * x3)))) = nI (kct x0.testBit 8 + kct x1.testBit 8 + kct x2.testBit 8 + kct x3.testBit 8) := by
  obtain ⟨a0, b0, c0, d0, e0⟩ := kp_x x0 h0
  obtain ⟨a1, b1, c1, d1, e1⟩ := kp_x x1 h1
  obtain ⟨a2, b2, c2, d2, e2⟩ := kp_x x2 h2
  obtain ⟨a3, b3, c3, d3, e3⟩ := kp_x x3 h3
  have w0 := kct_le x0.testBit 8
  have w1 := kct_le x1.testBit 8
  have w2 := kct_le x2.testBit 8
  have w3 := kct_le x3.testBit 8
  have sA : nI (x0 + 256 * (x1 + 256 * (x2 + 256 * x3))) - (((nI (x0 + 256 * (x1 + 256 * (x2 + 256 * x3)))).toUInt32 >>> ((1 : Int32).toUInt32 &&& Int32.toUInt32 31)).toInt32 &&& 1431655765) = nI (pA x0 + 256 * (pA x1 + 256 * (pA x2 + 256 * pA x3))) := by
    rw [show (1 : Int32) = nI 1 from rfl, kp_us _ 1 (by omega) (by decide), show (1431655765 : Int32) = nI 1431655765 from rfl, kp_ad, Nat.pow_one, kp_s1 h0 h1 h2 h3, pk_sub (by omega)]
    unfold pA
    rw [show x0 + 256 * (x1 + 256 * (x2 + 256 * x3)) - (((x0 / 2) &&& 85) + 256 * (((x1 / 2) &&& 85) + 256 * (((x2 / 2) &&& 85) + 256 * ((x3 / 2) &&& 85)))) = (x0 - ((x0 / 2) &&& 85)) + 256 * ((x1 - ((x1 / 2) &&& 85)) + 256 * ((x2 - ((x2 / 2) &&& 85)) + 256 * (x3 - ((x3 / 2) &&& 85)))) by omega]
  unfold kpop
  dsimp only
  rw [sA]
  generalize pA x0 = y0 at b0 c0 d0 e0 ⊢
  generalize pA x1 = y1 at b1 c1 d1 e1 ⊢
  generalize pA x2 = y2 at b2 c2 d2 e2 ⊢
  generalize pA x3 = y3 at b3 c3 d3 e3 ⊢
  have sB : (nI (y0 + 256 * (y1 + 256 * (y2 + 256 * y3))) &&& 858993459) + (((nI (y0 + 256 * (y1 + 256 * (y2 + 256 * y3)))).toUInt32 >>> ((2 : Int32).toUInt32 &&& Int32.toUInt32 31)).toInt32 &&& 858993459) = nI (pB y0 + 256 * (pB y1 + 256 * (pB y2 + 256 * pB y3))) := by
    rw [show (2 : Int32) = nI 2 from rfl, kp_us _ 2 (by omega) (by decide), show (858993459 : Int32) = nI 858993459 from rfl, kp_ad, kp_ad, show (2 : Nat) ^ 2 = 4 by decide, kp_s2 b0 b1 b2 b3, kp_s3 b0 b1 b2 b3, nI_add]
    unfold pB
    exact congrArg nI (by omega)
  rw [sB]
  generalize pB y0 = z0 at c0 d0 e0 ⊢
  generalize pB y1 = z1 at c1 d1 e1 ⊢
  generalize pB y2 = z2 at c2 d2 e2 ⊢
  generalize pB y3 = z3 at c3 d3 e3 ⊢
  have sD : (nI (z0 + 256 * (z1 + 256 * (z2 + 256 * z3))) + ((nI (z0 + 256 * (z1 + 256 * (z2 + 256 * z3)))).toUInt32 >>> ((4 : Int32).toUInt32 &&& Int32.toUInt32 31)).toInt32) &&& 252645135 = nI (kct x0.testBit 8 + 256 * (kct x1.testBit 8 + 256 * (kct x2.testBit 8 + 256 * kct x3.testBit 8))) := by
    rw [show (4 : Int32) = nI 4 from rfl, kp_us _ 4 (by omega) (by decide), show (252645135 : Int32) = nI 252645135 from rfl, nI_add, kp_ad, show z0 + 256 * (z1 + 256 * (z2 + 256 * z3)) + (z0 + 256 * (z1 + 256 * (z2 + 256 * z3))) / 2 ^ 4 = (z0 + z0 / 16 + 16 * (z1 % 16)) + 256 * ((z1 + z1 / 16 + 16 * (z2 % 16)) + 256 * ((z2 + z2 / 16 + 16 * (z3 % 16)) + 256 * (z3 + z3 / 16))) by omega, kp_s4 (by omega) (by omega) (by omega) (by omega)]
    exact congrArg nI (by omega)
  rw [sD]
  generalize kct x0.testBit 8 = k0 at w0 ⊢
  generalize kct x1.testBit 8 = k1 at w1 ⊢
  generalize kct x2.testBit 8 = k2 at w2 ⊢
  generalize kct x3.testBit 8 = k3 at w3 ⊢
  have q1 : (k0 + 256 * (k1 + 256 * (k2 + 256 * k3))) / 2 ^ 8 = k1 + 256 * (k2 + 256 * k3) := by omega
  rw [show (8 : Int32) = nI 8 from rfl, kp_us _ 8 (by omega) (by decide), nI_add, q1]
  have q2 : (k0 + 256 * (k1 + 256 * (k2 + 256 * k3)) + (k1 + 256 * (k2 + 256 * k3))) / 2 ^ 16 = k2 + k3 + 256 * k3 := by omega
  rw [show (16 : Int32) = nI 16 from rfl, kp_us _ 16 (by omega) (by decide), nI_add, q2, pk_andN (by omega) 6 (by decide)]
  exact congrArg nI (by omega)
theorem kpop_32 (x : Int32) : kpop x = nI (kcnt x 32) := by
  obtain ⟨n, hn, rfl⟩ := kp_of x
  have e : n = n % 256 + 256 * (n / 256 % 256 + 256 * (n / 65536 % 256 + 256 * (n / 16777216))) := by omega
  generalize h0 : n % 256 = x0 at e
  generalize h1 : n / 256 % 256 = x1 at e
  generalize h2 : n / 65536 % 256 = x2 at e
  generalize h3 : n / 16777216 = x3 at e
  have l0 : x0 < 256 := by omega
  have l1 : x1 < 256 := by omega
  have l2 : x2 < 256 := by omega
  have l3 : x3 < 256 := by omega
  clear h0 h1 h2 h3
  subst e
  rw [kp_N l0 l1 l2 l3, kcnt_c, show (32 : Nat) = 8 + (8 + (8 + 8)) from rfl, kct_add, kct_add, kct_add]
  have f0 : kct (bt (nI (x0 + 256 * (x1 + 256 * (x2 + 256 * x3))))) 8 = kct x0.testBit 8 := kct_c 8 (fun k hk => by rw [kp_bt (by omega), kp_tb l0, if_pos hk])
  have f1 : kct (fun k => bt (nI (x0 + 256 * (x1 + 256 * (x2 + 256 * x3)))) (8 + k)) 8 = kct x1.testBit 8 := kct_c 8 (fun k hk => by
    rw [kp_bt (by omega), kp_tb l0, if_neg (by omega), show 8 + k - 8 = k by omega, kp_tb l1, if_pos hk])
  have f2 : kct (fun k => bt (nI (x0 + 256 * (x1 + 256 * (x2 + 256 * x3)))) (8 + (8 + k))) 8 = kct x2.testBit 8 := kct_c 8 (fun k hk => by
    rw [kp_bt (by omega), kp_tb l0, if_neg (by omega), show 8 + (8 + k) - 8 = 8 + k by omega, kp_tb l1, if_neg (by omega), show 8 + k - 8 = k by omega, kp_tb l2, if_pos hk])
  have f3 : kct (fun k => bt (nI (x0 + 256 * (x1 + 256 * (x2 + 256 * x3)))) (8 + (8 + (8 + k)))) 8 = kct x3.testBit 8 := kct_c 8 (fun k hk => by
    rw [kp_bt (by omega), kp_tb l0, if_neg (by omega), show 8 + (8 + (8 + k)) - 8 = 8 + (8 + k) by omega, kp_tb l1, if_neg (by omega), show 8 + (8 + k) - 8 = 8 + k by omega, kp_tb l2, if_neg (by omega), show 8 + k - 8 = k by omega])
  rw [f0, f1, f2, f3]
  exact congrArg nI (by omega)
/-- the class's count of a set of senses is the reference's -/
theorem kpop_30 {x : Int32} (h : ∀ k, bt x k = true → k < 30) : kpop x = nI (kcnt x 30) := by
  have e1 : bt x 30 = false := by rw [Bool.eq_false_iff]; intro z; have := h 30 z; omega
  have e2 : bt x 31 = false := by rw [Bool.eq_false_iff]; intro z; have := h 31 z; omega
  rw [kpop_32]
  show nI (kcnt x 30 + (if bt x 30 then 1 else 0) + (if bt x 31 then 1 else 0)) = _
  rw [e1, e2]; rfl
