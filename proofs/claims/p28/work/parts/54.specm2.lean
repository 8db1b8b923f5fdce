theorem kshr_nm {tr y : Int32} {pa up ct : Nat → Int32} {a b n : Nat} (h : y = kshr tr pa up ct a b n) (h1 : ¬ y = -1) (hn : n ≤ 30) : ∃ q, q < 30 ∧ y = nI q := by
  rcases kshr_in (tr := tr) (pa := pa) (up := up) (ct := ct) (a := a) (b := b) n hn with e | ⟨c, hc, e⟩
  · exact absurd (h.trans e) h1
  · exact ⟨c, hc, h.trans e⟩
theorem kby_0 {tr b : Int32} {up ct : Nat → Int32} {k : Nat} (h : kby tr up ct k b = 0) : ¬ b = -1 := by
  intro e
  unfold kby at h
  rw [if_neg (Classical.not_not.mpr e)] at h
  exact absurd h (by decide)
theorem kshr_n {tr y : Int32} {pa up ct : Nat → Int32} {a b j : Nat} (h : y = kshr tr pa up ct a b j) (hc : (bt tr j && kcov up j a && kcov up j b) = false) : y = kshr tr pa up ct a b (j + 1) := by
  rw [h]; exact (if_neg (by rw [hc]; decide)).symm
theorem kshr_t {tr y : Int32} {pa up ct : Nat → Int32} {a b j : Nat} (h : y = kshr tr pa up ct a b j) (h1 : bt tr j = true) (h2 : kcov up j a = true) (h3 : kcov up j b = true) (h4 : kbet tr pa up ct j y = false) : y = kshr tr pa up ct a b (j + 1) := by
  rw [h] at h4 ⊢
  show _ = if (bt tr j && kcov up j a && kcov up j b) = true then (if kbet tr pa up ct j (kshr tr pa up ct a b j) = true then nI j else kshr tr pa up ct a b j) else kshr tr pa up ct a b j
  rw [if_pos (by rw [h1, h2, h3]; rfl), if_neg (by rw [h4]; decide)]
theorem kshr_f {tr y : Int32} {pa up ct : Nat → Int32} {a b j : Nat} (h : y = kshr tr pa up ct a b j) (h1 : bt tr j = true) (h2 : kcov up j a = true) (h3 : kcov up j b = true) (h4 : kbet tr pa up ct j y = true) : nI j = kshr tr pa up ct a b (j + 1) := by
  rw [h] at h4
  show _ = if (bt tr j && kcov up j a && kcov up j b) = true then (if kbet tr pa up ct j (kshr tr pa up ct a b j) = true then nI j else kshr tr pa up ct a b j) else kshr tr pa up ct a b j
  rw [if_pos (by rw [h1, h2, h3]; rfl), if_pos h4]
