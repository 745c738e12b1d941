/-! THE COUPLING goes on: weight, begin, freeze, thaw -/
theorem zJP.frame {μ ν : zM} {ph ph' : Nat → Nat} {d d' s k : Nat} (h : zJP μ ph d s k) (e : ν.1 (11 + k) = μ.1 (11 + k)) (ec : zpc ph' (ν.1 24) k d' = zpc ph (μ.1 24) k d) (e22 : ∀ j, j < zpc ph (μ.1 24) k d → zSF ν ph' k d' 22 j = zSF μ ph k d 22 j) (e23 : ∀ j, j < zpc ph (μ.1 24) k d → zSF ν ph' k d' 23 j = zSF μ ph k d 23 j)
    (m22 : zSm (ν.1 22) ph' (ν.1 24) k d' = zSm (μ.1 22) ph (μ.1 24) k d) (m23 : zSm (ν.1 23) ph' (ν.1 24) k d' = zSm (μ.1 23) ph (μ.1 24) k d) (e26 : ν.1 26 k = μ.1 26 k) (e27 : ν.1 27 k = μ.1 27 k) (e28 : ν.1 28 k = μ.1 28 k) : zJP ν ph' d' s k := by
  have a1 : zLCp ν ph' k d' s = zLCp μ ph k d s := by
    unfold zLCp
    rw [ec, zsa_congr _ e22]
  have a2 : zLRp ν ph' k d' = zLRp μ ph k d := by
    unfold zLRp
    rw [ec, zsa_congr _ e23]
  have b1 : zLC ν ph' k d' s = zLC μ ph k d s := by
    unfold zLC
    rw [e26, e27, a1]
  have b2 : zLR ν ph' k d' = zLR μ ph k d := by
    unfold zLR
    rw [e26, e28, a2]
  have b3 : zHas ν ph' k d' ↔ zHas μ ph k d := by
    unfold zHas
    rw [e26, ec]
  unfold zJP at h ⊢
  rw [e, ec, m22, m23, e26, e27, e28, b1, b2, b3]
  exact h
/-- the same, where the rows of the points are the same -/
theorem zJP.same {μ ν : zM} {ph : Nat → Nat} {d s k : Nat} (h : zJP μ ph d s k) (e : ν.1 (11 + k) = μ.1 (11 + k)) (e22 : ν.1 22 = μ.1 22) (e23 : ν.1 23 = μ.1 23) (e24 : ν.1 24 = μ.1 24) (e26 : ν.1 26 k = μ.1 26 k) (e27 : ν.1 27 k = μ.1 27 k) (e28 : ν.1 28 k = μ.1 28 k) : zJP ν ph d s k :=
  h.frame e (by rw [e24]) (fun j _ => by unfold zSF; rw [e22, e24]) (fun j _ => by unfold zSF; rw [e23, e24]) (by rw [e22, e24]) (by rw [e23, e24]) e26 e27 e28
theorem zJ.vb {μ : zM} {s d c b w : Nat} {ph fs : Nat → Nat} (h : zJ μ s d c b w ph fs) : zVb μ s d := fun i hi => (h.2.2.2.2.2.1 i hi).2.2.2.2.2.2
/-- what the coupling says without the phases -/
theorem zJ.low {μ ν : zM} {s d c b w : Nat} {ph fs : Nat → Nat} (h : zJ μ s d c b w ph fs) (e : ∀ a, (a ≤ 6 ∨ a = 21 ∨ a = 22 ∨ a = 23 ∨ a = 24 ∨ a = 25) → ν.1 a = μ.1 a) (hf : ∀ k, k < c → ν.1 (11 + k) 0 = μ.1 (11 + k) 0) (hP : ∀ k, k < c → zJP ν ph d s k) : zJ ν s d c b w ph fs := by
  obtain ⟨⟨a1, a2, a3, a4, a5⟩, ⟨b1, b2, b3, b4⟩, hB, hF, hF0, hR, -⟩ := h
  have e0 := e 0 (by omega)
  have e21 := e 21 (by omega)
  refine ⟨⟨a1.mono (by rw [e21]) (e 25 (by omega)), by rw [e21]; exact a2, a3, by rw [e21]; exact a4, a5⟩, ⟨by rw [e0]; exact b1, by rw [e0]; exact b2, by rw [e0]; exact b3, b4⟩, ?_, fun k hk => by rw [hf k hk]; exact hF k hk, hF0, fun i hi => ?_, hP⟩
  · unfold zJB
    rw [e0, e21]
    exact hB
  · have q := hR i hi
    unfold zJR zmn at q ⊢
    rw [e 1 (by omega), e 2 (by omega), e 3 (by omega), e 4 (by omega), e 5 (by omega), e 22 (by omega), e 23 (by omega), e 24 (by omega), e21]
    exact q
theorem zJ.weight {μ : zM} {s d c b w w' : Nat} {ph fs : Nat → Nat} (h : zJ μ s d c b w ph fs) (h1 : 1 ≤ w') (h2 : w' ≤ 10) : zJ (zu (zu μ 0 1 (nI w')) 21 14 (nI w')) s d c b w' ph fs := by
  obtain ⟨⟨a1, a2, a3, a4, a5⟩, ⟨b1, b2, b3, b4⟩, hB, hF, hF0, hR, hP⟩ := h
  have hc10 := a1.2.1
  have o : ∀ a, a ≠ 0 → a ≠ 21 → (zu (zu μ 0 1 (nI w')) 21 14 (nI w')).1 a = μ.1 a := fun a q r => by rw [zu_off _ _ _ _ r, zu_off _ _ _ _ q]
  have o0 : ∀ j, j ≠ 1 → (zu (zu μ 0 1 (nI w')) 21 14 (nI w')).1 0 j = μ.1 0 j := fun j q => by rw [zu_ne _ (by omega), zu_ne _ (by omega)]
  have o21 : ∀ j, j ≠ 14 → (zu (zu μ 0 1 (nI w')) 21 14 (nI w')).1 21 j = μ.1 21 j := fun j q => by rw [zu_ne _ (by omega), zu_ne _ (by omega)]
  refine ⟨⟨a1.mono (o21 9 (by decide)) (o 25 (by decide) (by decide)), (o21 1 (by decide)).trans a2, a3, (o21 0 (by decide)).trans a4, a5⟩, ⟨(o0 0 (by decide)).trans b1, (o0 6 (by decide)).trans b2, (o0 12 (by decide)).trans b3, b4⟩, ?_, fun k hk => by rw [o (11 + k) (by omega) (by omega)]; exact hF k hk, hF0, fun i hi => ?_, fun k hk => ?_⟩
  · unfold zJB at hB ⊢
    rw [o0 2 (by decide), o21 2 (by decide), o0 3 (by decide), o0 4 (by decide), o0 5 (by decide), o21 3 (by decide), o21 4 (by decide), o21 5 (by decide)]
    obtain ⟨q1, q2, q3, -, -, -, q4⟩ := hB
    exact ⟨q1, q2, q3, by simp [zu], by simp [zu], ⟨h1, h2⟩, q4⟩
  · have q := hR i hi
    unfold zJR zmn at q ⊢
    rw [o 1 (by decide) (by decide), o 2 (by decide) (by decide), o 3 (by decide) (by decide), o 4 (by decide) (by decide), o 5 (by decide) (by decide), o 22 (by decide) (by decide), o 23 (by decide) (by decide), o 24 (by decide) (by decide), o21 0 (by decide)]
    exact q
  · exact (hP k hk).same (o _ (by omega) (by omega)) (o 22 (by decide) (by decide)) (o 23 (by decide) (by decide)) (o 24 (by decide) (by decide)) (by rw [o 26 (by decide) (by decide)]) (by rw [o 27 (by decide) (by decide)]) (by rw [o 28 (by decide) (by decide)])
theorem zJ.freeze {μ : zM} {s d c b w k : Nat} {ph fs : Nat → Nat} (h : zJ μ s d c b w ph fs) (hk : k < c) (h2 : 2 ≤ zpc ph (μ.1 24) k d) : zJ (m_X4_freeze (zu μ (11 + k) 4 1) ph k d s) s d c b w ph fs := by
  have hc10 := h.1.c10
  obtain ⟨e1, e2, -⟩ := zL_of (μ := μ) (ν := zu μ (11 + k) 4 1) (zu_off _ _ _ _ (by omega)) (zu_off _ _ _ _ (by omega)) (zu_off _ _ _ _ (by omega)) (zu_off _ _ _ _ (by omega)) (zu_off _ _ _ _ (by omega)) (zu_off _ _ _ _ (by omega)) ph k d s
  unfold m_X4_freeze
  rw [e1, e2]
  have o : ∀ a, a ≠ 11 + k → a ≠ 26 → a ≠ 27 → a ≠ 28 → (zu (zu (zu (zu μ (11 + k) 4 1) 27 k (zLC μ ph k d s)) 28 k (zLR μ ph k d)) 26 k 1).1 a = μ.1 a := fun a q1 q2 q3 q4 => by rw [zu_off _ _ _ _ q2, zu_off _ _ _ _ q4, zu_off _ _ _ _ q3, zu_off _ _ _ _ q1]
  refine h.low (fun a ha => o a (by omega) (by omega) (by omega) (by omega)) (fun j hj => ?_) (fun j hj => ?_)
  · rw [zu_ne _ (by omega), zu_ne _ (by omega), zu_ne _ (by omega), zu_ne _ (by omega)]
  · by_cases e : j = k
    · subst e
      have hz : zHas μ ph j d := Or.inr (by omega)
      have hq := h.2.2.2.2.2.2 j hj
      have hbd := zL_bd (s := s) h.1.2.2.1 h.1.2.2.2.2 h.vb hq hz
      obtain ⟨p1, p2, p3, p4, p5, p6, p7⟩ := hq
      obtain ⟨l1, l2, l3, l4⟩ := p6 hz
      have n26 : (zu (zu (zu (zu μ (11 + j) 4 1) 27 j (zLC μ ph j d s)) 28 j (zLR μ ph j d)) 26 j 1).1 26 j = 1 := by simp [zu]
      have n27 : (zu (zu (zu (zu μ (11 + j) 4 1) 27 j (zLC μ ph j d s)) 28 j (zLR μ ph j d)) 26 j 1).1 27 j = zLC μ ph j d s := by simp [zu]
      have n28 : (zu (zu (zu (zu μ (11 + j) 4 1) 27 j (zLC μ ph j d s)) 28 j (zLR μ ph j d)) 26 j 1).1 28 j = zLR μ ph j d := by simp [zu]
      have nc : zLC (zu (zu (zu (zu μ (11 + j) 4 1) 27 j (zLC μ ph j d s)) 28 j (zLR μ ph j d)) 26 j 1) ph j d s = zLC μ ph j d s := by
        rw [zLC, if_neg (by rw [n26]; decide), n27]
      have nr : zLR (zu (zu (zu (zu μ (11 + j) 4 1) 27 j (zLC μ ph j d s)) 28 j (zLR μ ph j d)) 26 j 1) ph j d = zLR μ ph j d := by
        rw [zLR, if_neg (by rw [n26]; decide), n28]
      have f : ∀ t, t ≠ 4 → (zu (zu (zu (zu μ (11 + j) 4 1) 27 j (zLC μ ph j d s)) 28 j (zLR μ ph j d)) 26 j 1).1 (11 + j) t = μ.1 (11 + j) t := fun t ht => by rw [zu_ne _ (by omega), zu_ne _ (by omega), zu_ne _ (by omega), zu_ne _ (by omega)]
      unfold zJP
      rw [nc, nr, n26, n27, n28, f 1 (by decide), f 2 (by decide), f 3 (by decide), f 5 (by decide), f 6 (by decide), f 7 (by decide), f 8 (by decide), o 22 (by omega) (by decide) (by decide) (by decide), o 23 (by omega) (by decide) (by decide) (by decide), o 24 (by omega) (by decide) (by decide) (by decide)]
      refine ⟨p1, p2, p3, ?_, Or.inr rfl, fun _ => ⟨l1, l2, l3, l4⟩, fun _ => hbd⟩
      rw [zu_ne _ (by omega), zu_ne _ (by omega), zu_ne _ (by omega)]
      simp [zu]
    · refine (h.2.2.2.2.2.2 j hj).same (o _ (by omega) (by omega) (by omega) (by omega)) (o 22 (by omega) (by decide) (by decide) (by decide)) (o 23 (by omega) (by decide) (by decide) (by decide)) (o 24 (by omega) (by decide) (by decide) (by decide)) ?_ ?_ ?_
      · rw [zu_ne _ (by omega), zu_ne _ (by omega), zu_ne _ (by omega), zu_ne _ (by omega)]
      · rw [zu_ne _ (by omega), zu_ne _ (by omega), zu_ne _ (by omega), zu_ne _ (by omega)]
      · rw [zu_ne _ (by omega), zu_ne _ (by omega), zu_ne _ (by omega), zu_ne _ (by omega)]
