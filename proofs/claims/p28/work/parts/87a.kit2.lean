/-! p28: a place where ways of different room meet; parents of a sense that is there; what mass tells. -/
theorem kl_cutc {p : Program} {l : Launch} {e : Env} {R : Room} {s : State} {m : MethodId} {args : Array Value} {below : List Frame} {meth : Method} {c : Code} {cells slots c1 s1 : Nat} {Q : State → Prop} {pc : Nat} {H0 : Heap} {locs0 : List Loc} {g : JFrame} (I : Heap → List Loc → Array Slot → List Value → Prop)
    (k : ∀ (H : Heap) (locs : List Loc) (ls : Array Slot) (st : List Value), I H locs ls st → W p l e R s m args below meth c H locs c1 s1 Q (F0 m pc ls st))
    (kk : (∀ (H : Heap) (locs : List Loc) (ls : Array Slot) (st : List Value), I H locs ls st → W p l e R s m args below meth c H locs c1 s1 Q (F0 m pc ls st)) → W p l e R s m args below meth c H0 locs0 cells slots Q g) : W p l e R s m args below meth c H0 locs0 cells slots Q g := kk k
theorem kfMas_0 {c : kCS} {i : Int32} (h : ¬ kfMas c i < 0) : kcOne (kPr c) i = 0 := by
  by_cases e : kcOne (kPr c) i = 0
  · exact e
  · unfold kfMas at h
    rw [if_neg e] at h
    exact absurd (by decide) h
theorem kfMas_p {c : kCS} {i : Nat} (hi : i < 30) (h : ¬ kfMas c (nI i) < 0) : bt (kPr c) i = true := by
  obtain ⟨a, ha, e, hp⟩ := kOne_i (kfMas_0 h)
  rw [nI_eq (by omega) (by omega)] at e
  subst e; exact hp
theorem cH_parents (l : Launch) (D : va_G) (cI : ClassId) (a : Nat → Nat) (c : kCS) (x : kXS) (i : Int32) (h : kcOne (kPr c) i = 0) (hfl : l.stackTraces = false) : kc_X l yX3_parents wsX3_parents 7 103 1 6 D cI [.ref (a 0), .int i] (oW cI a c x) (fun (r : Int32) (_ : Unit) => r = kat 30 (kPa c) i) (fun _ => oW cI a c x) (fun _ => False) :=
  kc_X_mono (cP_parents l D cI a c x i hfl) (fun r u q => ⟨(), q.2, rfl⟩) (fun E q => absurd q.2 (by rw [h]; decide))
