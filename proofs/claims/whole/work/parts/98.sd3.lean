/-! ===== class against reference: what run wants ===== -/
theorem runI_rA {h : hp_T} {M : mM} {w g n s m : Nat} (R : rC (hp_i h) M w g) (Bd : bC M) (E9 : rE (hp_i h) M w g m) (A : rA (hp_i h) M w g n) (B : rT h M n) (hs : s ≤ n) (e : (if M 0 68 = -1 then M 0 62 else M 0 68) = nI s) : runI M n s w g m := by
  obtain ⟨d1, d2, d3, d4, -⟩ := Bd
  obtain ⟨e1, e2, e3, e4⟩ := E9
  refine ⟨refI_rA R A B hs e, ⟨fun c hc => ?_, fun c hc => ?_, e2, e3, fun x hx => ?_, fun x hx => ?_⟩, fun c hc => ?_, fun a h1 h2 h3 => ?_, fun c hc => ?_⟩
  · obtain ⟨k, hk, z⟩ := d1 c hc
    exact ⟨k, by omega, z⟩
  · obtain ⟨k, hk, z⟩ := d2 c hc
    exact ⟨k, by omega, z⟩
  · obtain ⟨-, -, -, ⟨k, k1, k2, k3⟩, -⟩ := e4 x hx
    exact ⟨k, k2, k3⟩
  · obtain ⟨-, -, z, -⟩ := e4 x hx
    exact z
  · obtain ⟨k, hk, z⟩ := d3 c hc
    exact ⟨k, by omega, z⟩
  · obtain ⟨-, -, -, v, hv, z⟩ := (A.2.2 a h1 h2).2.2.2.2.2 h3
    exact ⟨v, by omega, z⟩
  · obtain ⟨k, hk, z⟩ := d4 c hc
    rw [z]
    rcases (show k = 0 ∨ k = 1 by omega) with q | q
    · rw [q]; rfl
    · rw [q]; rfl
theorem plI_rP {F M : mM} {w g p : Nat} (P : rP F M w g p) : plI F w g p := by
  obtain ⟨⟨a1, a2, a3, a4⟩, -⟩ := P
  refine ⟨a1, a3, fun i hi => ?_⟩
  obtain ⟨z, a, ha, e⟩ := a4 i hi
  exact ⟨a, ha, z.trans e⟩
theorem txI_rR {h : hp_T} {M : mM} {L : Nat} (P : rR (hp_i h) M L) : txI (rd0 h) L := by
  obtain ⟨⟨a1, a2, a3⟩, b, c, -⟩ := P
  refine ⟨a1, a3, fun i hi => ?_⟩
  obtain ⟨q, hq, e⟩ := c i hi
  exact ⟨q, hq, (congrFun b i).trans e⟩
