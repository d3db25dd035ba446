theorem Fr.mono {f f2 : Nat → va_E} {as bs : List Nat} (h : Fr f f2 as) (hs : ∀ x ∈ as, x ∈ bs) : Fr f f2 bs := fun x hx => h x (fun q => hx (hs x q))
def setW (V : VV) (w : Nat → Int32) : VV := (V.1, V.2.1, V.2.2.1, V.2.2.2.1, w)
def buyU (U W : VV) : VV := (U.1, U.2.1, U.2.2.1 - 5, U.2.2.2.1, mapN (fun j w => (w + W.2.2.2.2 j) / 2) U.2.2.2.2 8)
def buyW (W : VV) : VV := (W.1, W.2.1, W.2.2.1 + 5, W.2.2.2.1, W.2.2.2.2)
theorem Vils.share {g : GG} {L : List Nat} {f f2 : Nat → va_E} {cap : Nat} {ad aw : Nat → Nat} {vs : Nat → VV} (h : Vils g L f cap ad aw vs) (hD : Dst cap ad aw) {u w : Nat} (hu : u < cap) (hw : w < cap) (hne : u ≠ w) {U W : VV} (h1 : f2 (ad u) = eO 2 [.ref (aw u), .int U.1, .int U.2.1, .int U.2.2.1, .int U.2.2.2.1]) (h2 : f2 (aw u) = eI g 8 U.2.2.2.2) (h3 : f2 (ad w) = eO 2 [.ref (aw w), .int W.1, .int W.2.1, .int W.2.2.1, .int W.2.2.2.1]) (h4 : W.2.2.2.2 = (vs w).2.2.2.2) (hF : Fr f f2 [ad u, aw u, ad w]) : Vils g L f2 cap ad aw (fun z => if z = u then U else if z = w then W else vs z) := by
  intro z hz
  obtain ⟨a1, a2, a3, a4⟩ := h z hz
  by_cases e1 : z = u
  · subst e1
    simp only [if_true]
    exact ⟨a1, h1, a3, h2⟩
  · by_cases e2 : z = w
    · subst e2
      simp only [if_neg e1, if_true]
      exact ⟨a1, h3, a3, by rw [h4]; exact (hF _ (nm_c (h.ne hu hz).symm (nm_c (hD z u hz hu e1).2 (nm_c (h.ne hz hz).symm List.not_mem_nil)))).trans a4⟩
    · simp only [if_neg e1, if_neg e2]
      exact ⟨a1, (hF _ (nm_c (hD z u hz hu e1).1 (nm_c (h.ne hz hu) (nm_c (hD z w hz hw e2).1 List.not_mem_nil)))).trans a2, a3, (hF _ (nm_c (h.ne hu hz).symm (nm_c (hD z u hz hu e1).2 (nm_c (h.ne hw hz).symm List.not_mem_nil)))).trans a4⟩
def bestL (r : Nat → Int32) : Nat → Int32 × Int32
  | 0 => (-1, -1)
  | i + 1 => if (bestL r i).1 < r i then (r i, nI i) else bestL r i
theorem bestL_t {r : Nat → Int32} {i : Nat} {a b : Int32} (h1 : a = (bestL r i).1) (h : ¬ r i ≤ a) : r i = (bestL r (i + 1)).1 ∧ nI i = (bestL r (i + 1)).2 := by
  have e : bestL r (i + 1) = (r i, nI i) := if_pos (by rw [← h1]; exact Int32.not_le.mp h)
  rw [e]; exact ⟨rfl, rfl⟩
theorem bestL_f {r : Nat → Int32} {i : Nat} {a b : Int32} (h1 : a = (bestL r i).1) (h2 : b = (bestL r i).2) (h : r i ≤ a) : a = (bestL r (i + 1)).1 ∧ b = (bestL r (i + 1)).2 := by
  have e : bestL r (i + 1) = bestL r i := if_neg (by rw [← h1]; exact Int32.not_lt.mpr h)
  rw [e]; exact ⟨h1, h2⟩
/-- all but the league's own object, the sayings and a row's villages is the same -/
def FrP (f f2 : Nat → va_E) (lo sy cap : Nat) (ad aw : Nat → Nat) : Prop := ∀ x, x ≠ lo → x ≠ sy → Off cap ad aw x → f2 x = f x
