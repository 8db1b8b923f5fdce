/-! The reference's operations: which exception (0 for none), and what they leave. -/
theorem kif0 {α : Sort _} (x y : α) : (if (0 : Int32) = 0 then x else y) = x := if_pos rfl
theorem kif1 {α : Sort _} (x y : α) : (if (1 : Int32) = 0 then x else y) = y := if_neg (by decide)
theorem kif2 {α : Sort _} (x y : α) : (if (2 : Int32) = 0 then x else y) = y := if_neg (by decide)
theorem kcov_d {tr : Int32} {pa up : Nat → Int32} {a b : Nat} (h : kUp tr pa up) (ha : a < 30) (hb : b < 30) : kcov up a b = decide (kd tr pa b a < 1000) := by
  unfold kcov
  rw [h b a hb ha]
  have hk : kd tr pa b a ≤ 1000 := by
    unfold kd
    have key : ∀ (p : Nat → Bool) n x, kfs p n x ≤ x + n := by
      intro p n
      induction n with
      | zero => exact fun x => Nat.le_refl x
      | succ n ih =>
        intro x
        show (if p x = true then x else kfs p n (x + 1)) ≤ _
        split
        · omega
        · have := ih (x + 1); omega
    have := key (fun n => kpt tr pa n b a) 1000 0
    omega
  have e : ((1000 : Int32) ≤ nI (kd tr pa b a)) ↔ 1000 ≤ kd tr pa b a := nI_leI (a := 1000) (by decide) (by omega)
  rw [decide_eq_decide.mpr e, ← decide_not, decide_eq_decide]
  omega
theorem kwex_in {mw i : Int32} {W : Nat} (h : kwex mw i = true) (hw : mw = nI W) (hW : W ≤ 10) : ∃ w, w < W ∧ i = nI w := by
  unfold kwex at h
  rw [Bool.and_eq_true, Bool.not_eq_true', Bool.not_eq_true'] at h
  have h0 := of_decide_eq_false h.1
  have h1 := of_decide_eq_false h.2
  rw [hw] at h1
  rcases pk_ix i (show W < 2 ^ 31 by omega) with h2 | h2 | ⟨a, ha, rfl⟩
  · exact absurd h2 h0
  · exact absurd h2 h1
  · exact ⟨a, ha, rfl⟩
def kdx (tr : Int32) (pa : Nat → Int32) (i k : Int32) : Bool := decide (kd tr pa i.toNatClampNeg k.toNatClampNeg < 1000)
theorem kdx_nI {tr : Int32} {pa : Nat → Int32} {a b : Nat} (ha : a < 30) (hb : b < 30) : kdx tr pa (nI b) (nI a) = decide (kd tr pa b a < 1000) := by
  unfold kdx; rw [nI_clamp (by omega), nI_clamp (by omega)]
def kmAdd (ma : Int32) : Int32 := if ma = 30 then 1 else 0
def kmLink (tr : Int32) (pa : Nat → Int32) (i k : Int32) : Int32 := if khas tr i = false then 1 else if khas tr k = false then 1 else if khas (kat 30 pa i) k = true then 2 else if nI (kcnt (kat 30 pa i) 30) = 4 then 2 else if kdx tr pa k i = true then 2 else 0
def kmUnl (tr : Int32) (pa : Nat → Int32) (i k : Int32) : Int32 := if khas tr i = false then 1 else if khas tr k = false then 1 else if khas (kat 30 pa i) k = false then 2 else 0
def kmCnt (tr i k : Int32) : Int32 := if khas tr i = false then 1 else if kin k 0 1000 = false then 2 else 0
def kmAdw (mw : Int32) : Int32 := if mw = 10 then 1 else 0
def kmOne (tr i : Int32) : Int32 := if khas tr i = false then 1 else 0
def kmTwo (tr i k : Int32) : Int32 := if khas tr i = false then 1 else if khas tr k = false then 1 else 0
def kmLik (tr i k q : Int32) : Int32 := if khas tr i = false then 1 else if khas tr k = false then 1 else if kin q 0 2 = false then 2 else 0
def kpl2 (mg mm : Nat → Int32) (i k : Int32) : Int32 := kplo mg i.toNatClampNeg k (kat 10 mm i).toNatClampNeg
theorem kpl2_nI {mg mm : Nat → Int32} {w n : Nat} {k : Int32} (hw : w < 10) (hn : mm w = nI n) (h5 : n ≤ 5) : kpl2 mg mm (nI w) k = kplo mg w k n := by
  unfold kpl2; rw [kat_nI hw (by decide), hn, nI_clamp (by omega), nI_clamp (by omega)]
def kmGiv (tr mw : Int32) (mg mm : Nat → Int32) (i k : Int32) : Int32 := if kwex mw i = false then 1 else if khas tr k = false then 1 else if ¬ kpl2 mg mm i k = -1 then 2 else if kat 10 mm i = 5 then 2 else 0
def kmTak (tr mw : Int32) (mg mm mt : Nat → Int32) (P : Nat) (i k : Int32) : Int32 := if kwex mw i = false then 1 else if khas tr k = false then 1 else if kpl2 mg mm i k = -1 then 2 else if kat 10 mm i = 1 ∧ ksai mt i P = true then 2 else 0
def kmLoc (mw : Int32) (mg mm : Nat → Int32) (i k : Int32) : Int32 := if kwex mw i = false then 1 else if k = -1 then 0 else if kpl2 mg mm i k = -1 then 2 else 0
def kmSay (mw sd : Int32) (mm : Nat → Int32) (i : Int32) : Int32 := if kwex mw i = false then 1 else if sd = 6 then 2 else if kat 10 mm i = 0 then 2 else 0
def kmBst (q : Int32) : Int32 := if kin q 0 2 = false then 1 else 0
def kmCho (sd i q : Int32) : Int32 := if kin i 0 (sd - 1) = false then 1 else if kin q 0 2 = false then 2 else 0
/-- the set of senses other than a that f tells -/
def kset2 (f : Nat → Bool) (a : Nat) : Nat → Int32
  | 0 => 0
  | k + 1 => if k = a then kset2 f a k ||| 0 else if f k = true then kset2 f a k ||| kbit (nI k) else kset2 f a k ||| 0
theorem kset2_c {f g : Nat → Bool} {a : Nat} : ∀ n, (∀ k, k < n → f k = g k) → kset2 f a n = kset2 g a n := by
  intro n
  induction n with
  | zero => exact fun _ => rfl
  | succ n ih => intro h; unfold kset2; rw [ih (fun k hk => h k (by omega)), h n (by omega)]
