section KU
variable {p : Program} {l : Launch} {e : Env} {R : Room} {s : State} {m : MethodId} {args : Array Value} {below : List Frame} {meth : Method} {c : Code} {cells slots : Nat} {Q : State → Prop}
theorem kl_up {σ : Type} {head : Nat} (f : Int32 → σ → σ) (b : Int32) (I : Int32 → σ → Heap → List Loc → Array Slot → Prop)
    (step : ∀ (x : Int32) (g : σ) (H : Heap) (locs : List Loc) (ls : Array Slot), I x g H locs ls → ¬ b ≤ x → (∀ (H1 : Heap) (locs1 : List Loc) (ls1 : Array Slot), I (x + 1) (f x g) H1 locs1 ls1 → W p l e R s m args below meth c H1 locs1 cells slots Q (F0 m head ls1 [])) → W p l e R s m args below meth c H locs cells slots Q (F0 m head ls []))
    (x0 : Int32) (g0 : σ)
    (exit : ∀ (x : Int32) (H : Heap) (locs : List Loc) (ls : Array Slot), I x (kups f b x0 g0) H locs ls → b ≤ x → W p l e R s m args below meth c H locs cells slots Q (F0 m head ls []))
    {H : Heap} {locs : List Loc} {ls : Array Slot} (h : I x0 g0 H locs ls) : W p l e R s m args below meth c H locs cells slots Q (F0 m head ls []) := by
  have key : ∀ (n : Nat) (x : Int32) (g : σ), (b.toInt - x.toInt).toNat = n → kups f b x g = kups f b x0 g0 → ∀ (H : Heap) (locs : List Loc) (ls : Array Slot), I x g H locs ls → W p l e R s m args below meth c H locs cells slots Q (F0 m head ls []) := by
    intro n
    induction n with
    | zero =>
      intro x g hn hT H locs ls h
      have hb : b ≤ x := by rw [Int32.le_iff_toInt_le]; omega
      rw [kups_x hb] at hT
      subst hT
      exact exit x H locs ls h hb
    | succ n ih =>
      intro x g hn hT H locs ls h
      have hb : ¬ b ≤ x := by rw [Int32.le_iff_toInt_le]; omega
      have hm := (kx_m hb).1
      rw [kups_s hb] at hT
      exact step x g H locs ls h hb (fun H1 l1 s1 h1 => ih (x + 1) (f x g) (by omega) hT H1 l1 s1 h1)
  exact key _ x0 g0 rfl rfl H locs ls h
theorem kl_dn {σ : Type} {head : Nat} (f : Int32 → σ → σ) (I : Int32 → σ → Heap → List Loc → Array Slot → Prop)
    (step : ∀ (x : Int32) (g : σ) (H : Heap) (locs : List Loc) (ls : Array Slot), I x g H locs ls → ¬ x < 0 → (∀ (H1 : Heap) (locs1 : List Loc) (ls1 : Array Slot), I (x + (-1)) (f x g) H1 locs1 ls1 → W p l e R s m args below meth c H1 locs1 cells slots Q (F0 m head ls1 [])) → W p l e R s m args below meth c H locs cells slots Q (F0 m head ls []))
    (x0 : Int32) (g0 : σ)
    (exit : ∀ (x : Int32) (H : Heap) (locs : List Loc) (ls : Array Slot), I x (kdns f x0 g0) H locs ls → x < 0 → W p l e R s m args below meth c H locs cells slots Q (F0 m head ls []))
    {H : Heap} {locs : List Loc} {ls : Array Slot} (h : I x0 g0 H locs ls) : W p l e R s m args below meth c H locs cells slots Q (F0 m head ls []) := by
  have key : ∀ (n : Nat) (x : Int32) (g : σ), (x.toInt + 1).toNat = n → kdns f x g = kdns f x0 g0 → ∀ (H : Heap) (locs : List Loc) (ls : Array Slot), I x g H locs ls → W p l e R s m args below meth c H locs cells slots Q (F0 m head ls []) := by
    intro n
    induction n with
    | zero =>
      intro x g hn hT H locs ls h
      have hb : x < 0 := by rw [Int32.lt_iff_toInt_lt]; have : (0 : Int32).toInt = 0 := by decide
                            omega
      rw [kdns_x hb] at hT
      subst hT
      exact exit x H locs ls h hb
    | succ n ih =>
      intro x g hn hT H locs ls h
      have hb : ¬ x < 0 := by rw [Int32.lt_iff_toInt_lt]; have : (0 : Int32).toInt = 0 := by decide
                              omega
      have hm := kdn_m hb
      rw [kdns_s hb] at hT
      exact step x g H locs ls h hb (fun H1 l1 s1 h1 => ih (x + (-1)) (f x g) (by omega) hT H1 l1 s1 h1)
  exact key _ x0 g0 rfl rfl H locs ls h
end KU
