/-! holds, at every depth -/
theorem work_all {l : Launch} {G : gV} {N : gN} {a : Nat} (ha : nS N a) (H : HoldsC l G N (ndp N a)) : WorkC l G N a (9 + 4 * ndp N a) := by
  intro M P j h hj hask hP0
  obtain ⟨-, hk, -⟩ := h.1 a ha
  rcases hk with ⟨e0, -⟩ | ⟨e0, s, tl, at0, tf, ex, hs1, hd1, ht, hden⟩ | ⟨e0, s, rule, c, ex, hs1, hd1, hr0, hden⟩ | ⟨e0, s, t, op, ex, hs1, ht1, hd1, hd2, hden⟩ | ⟨e0, s, d, kind, reach, what, ex, hs1, hd1, ⟨tk, re, hT⟩, hden⟩ | ⟨e0, s, t, ex, hs1, ht1, hd1, hd2, K, hK, hin, hout, hden⟩
  · refine ⟨fun e => ?_, fun e => ?_, fun e => ?_, fun e => ?_, fun e => ?_⟩ <;> rw [e0] at e <;> cases e
  · exact ⟨fun e => absurd (e0.symm.trans e) (by decide), fun e => absurd (e0.symm.trans e) (by decide), fun e => absurd (e0.symm.trans e) (by decide), fun e => absurd (e0.symm.trans e) (by decide), fun _ => c_X10_work H h ha hj hask hP0 e0 ex hs1 hd1 ht (hden j hj)⟩
  · exact ⟨fun _ => c_X2_work H h ha hj hask hP0 e0 ex hs1 hd1 hr0 (hden j hj), fun e => absurd (e0.symm.trans e) (by decide), fun e => absurd (e0.symm.trans e) (by decide), fun e => absurd (e0.symm.trans e) (by decide), fun e => absurd (e0.symm.trans e) (by decide)⟩
  · exact ⟨fun e => absurd (e0.symm.trans e) (by decide), fun e => absurd (e0.symm.trans e) (by decide), fun _ => c_X4_work H h ha hj hask hP0 e0 ex hs1 ht1 hd1 hd2 (hden j hj), fun e => absurd (e0.symm.trans e) (by decide), fun e => absurd (e0.symm.trans e) (by decide)⟩
  · obtain ⟨K, hK, hKe, hden⟩ := hden j hj
    exact ⟨fun e => absurd (e0.symm.trans e) (by decide), fun _ => c_X3_work H h ha hj hask hP0 e0 ex hs1 hd1 hT hK hKe hden, fun e => absurd (e0.symm.trans e) (by decide), fun e => absurd (e0.symm.trans e) (by decide), fun e => absurd (e0.symm.trans e) (by decide)⟩
  · exact ⟨fun e => absurd (e0.symm.trans e) (by decide), fun e => absurd (e0.symm.trans e) (by decide), fun e => absurd (e0.symm.trans e) (by decide), fun _ => c_X6_work H h ha hj hask hP0 e0 ex hs1 ht1 hd1 hd2 hK rfl rfl rfl rfl rfl rfl hin hout (hden j hj), fun e => absurd (e0.symm.trans e) (by decide)⟩
theorem holds_all (l : Launch) (G : gV) (N : gN) : ∀ d : Nat, HoldsC l G N d := by
  intro d
  induction d with
  | zero => intro a M P i _ h; exact absurd h (Nat.not_lt_zero _)
  | succ d ih =>
    intro a M P i ha hlt h hP0
    have H : HoldsC l G N (ndp N a) := fun b M1 P1 i1 q1 q2 => ih b M1 P1 i1 q1 (by omega)
    by_cases hc : cIn (nsz N a) i = 0
    · have r := c_holds_out (l := l) (k := 7 + 4 * ndp N a) h ha hc
      rw [show 7 + 4 * ndp N a + 3 = 10 + 4 * ndp N a by omega] at r
      exact r
    · obtain ⟨j, hj, rfl⟩ := cIn_of (h.1 a ha).1.2.2.2.2.1 hc
      have w := work_all (l := l) ha H
      rw [show 9 + 4 * ndp N a = (6 + 4 * ndp N a) + 3 by omega] at w
      have r := c_holds_in (k := 6 + 4 * ndp N a) h ha hj hP0 w
      rw [show 6 + 4 * ndp N a + 4 = 10 + 4 * ndp N a by omega] at r
      exact r
/-- holds, asked from outside -/
theorem c_holds {l : Launch} {G : gV} {M : gMem} {N : gN} {a : Nat} (h : nInv G M N (fun _ _ => False)) (ha : nS N a) (i : Int32) : qC l G yX5_holds cX5_holds 5 (some .boolean) (10 + 4 * ndp N a) 0 0 [.ref a, .int i] M (hP G N M (fun _ _ => False) a i) := holds_all l G N (ndp N a + 1) a M _ i ha (Nat.lt_succ_self _) h (fun _ _ q => q.elim)
