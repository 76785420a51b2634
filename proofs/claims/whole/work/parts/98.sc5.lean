/-! ===== class against reference: whether terms hold ===== -/
theorem tel_fr {V : Int32 → Int64} {M M1 : mM} {a q : Nat} {W : tW} (e : ∀ r, r ≠ 0 → M1 r = M r) : tel V M1 a q W = tel V M a q W := by
  unfold tel
  rw [e 29 (by decide), e 27 (by decide), e 28 (by decide)]
theorem hoF_fr {V : Int32 → Int64} {M M1 : mM} {a : Nat} {kind : Int32} (e : ∀ r, r ≠ 0 → M1 r = M r) : ∀ (k q : Nat) (W : tW), hoF V M1 a kind k q W = hoF V M a kind k q W
  | 0, _, _ => rfl
  | k + 1, q, W => by
    unfold hoF
    rw [tel_fr e, e 26 (by decide), hoF_fr e k (q + 1), hoF_fr e k (q + 1)]
/-- some statement of the kind holds: the same on both sides -/
theorem some_ho {h : hp_T} {M M1 : mM} {a b k t : Nat} {S : kS} {V : Int32 → Int64} {W : tW} (hV : opV (S.1 7) (S.1 6 4) V) (ht : t < 3) (e : ∀ r, r ≠ 0 → M1 r = M r) (h0 : hp_i h b 0 = nI k) (R : tmR M a k (tcd h b) (tkd h b) (tfr h b)) : (someS h S (some b) (nI (14 + t))).1 = (hoS V M1 a (nI t) W).1 := by
  have hk := R.1
  have hn : tn h b = k := by
    unfold tn
    rw [h0, nI_clamp (by omega)]
  unfold hoS
  rw [hoF_fr e, e 25 (by decide), R.2.1, nI_clamp (by omega)]
  show (smF S (tcd h b) (tkd h b) (tfr h b) (nI (14 + t)) (tn h b) 0 (S.1 8)).1 = _
  rw [hn]
  exact sm_ho hV ht R.2.2 k 0 _ _ (by omega)
