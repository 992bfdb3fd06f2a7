/-! ===== ints as Int ===== -/
def iI (x : Int) : Int32 := Int32.ofInt x
def gsm (a : Int) : Prop := -2147483648 ≤ a ∧ a < 2147483648
theorem iI_add (a b : Int) : iI a + iI b = iI (a + b) := (Int32.ofInt_add a b).symm
theorem iI_sub (a b : Int) : iI a - iI b = iI (a - b) := (Int32.ofInt_sub a b).symm
theorem iI_neg (a : Int) : -iI a = iI (-a) := (Int32.ofInt_neg a).symm
theorem iI_toInt {a : Int} (h : gsm a) : (iI a).toInt = a := Int32.toInt_ofInt_of_le (by have := h.1; omega) (by have := h.2; omega)
theorem iI_of (x : Int32) : iI x.toInt = x := Int32.ofInt_toInt x
theorem gsm_of (x : Int32) : gsm x.toInt := ⟨by have := x.le_toInt; omega, by have := x.toInt_lt; omega⟩
theorem iI_nat (n : Nat) : iI (n : Int) = Int32.ofNat n := Int32.ofInt_eq_ofNat
theorem iI_cl {a : Int} (h0 : 0 ≤ a) (h1 : a < 2147483648) : (iI a).toNatClampNeg = a.toNat := by
  have h := iI_toInt (a := a) ⟨by omega, h1⟩
  show (iI a).toInt.toNat = a.toNat
  rw [h]
theorem iI_in {a : Int} {n : Nat} (h0 : 0 ≤ a) (h1 : a < n) (hn : n ≤ 2147483648) : vp_in (iI a) n := by
  rw [vp_in_iff, iI_toInt ⟨by omega, by omega⟩]
  exact ⟨h0, h1⟩
theorem iI_le {a b : Int} (ha : gsm a) (hb : gsm b) : iI a ≤ iI b ↔ a ≤ b := by
  rw [Int32.le_iff_toInt_le, iI_toInt ha, iI_toInt hb]
theorem iI_lt {a b : Int} (ha : gsm a) (hb : gsm b) : iI a < iI b ↔ a < b := by
  rw [Int32.lt_iff_toInt_lt, iI_toInt ha, iI_toInt hb]
theorem iI_eq {a b : Int} (ha : gsm a) (hb : gsm b) : iI a = iI b ↔ a = b := by
  rw [← Int32.toInt_inj, iI_toInt ha, iI_toInt hb]
theorem iI_0 : (0 : Int32) = iI 0 := rfl
theorem gsm_i {a : Int} (h0 : -2147483648 ≤ a) (h1 : a < 2147483648) : gsm a := ⟨h0, h1⟩
theorem iI_div {a b : Int} (ha : 0 ≤ a) (ha2 : a < 2147483648) (hb : 0 < b) (hb2 : b < 2147483648) : iI a / iI b = iI (a / b) := by
  have h1 : iI a = nI a.toNat := by rw [show nI a.toNat = Int32.ofNat a.toNat from rfl, ← iI_nat]; rw [Int.toNat_of_nonneg ha]
  have h2 : iI b = nI b.toNat := by rw [show nI b.toNat = Int32.ofNat b.toNat from rfl, ← iI_nat]; rw [Int.toNat_of_nonneg (by omega)]
  rw [h1, h2, pk_div (by omega) (by omega) (by omega), show nI (a.toNat / b.toNat) = Int32.ofNat (a.toNat / b.toNat) from rfl, ← iI_nat]
  congr 1
  rw [Int.natCast_ediv, Int.toNat_of_nonneg ha, Int.toNat_of_nonneg (by omega)]
/-! ===== locals ===== -/
def gL (ls : Array Slot) (lv : List (Option Value)) : Prop := ls.size = lv.length ∧ lv_wf ls ∧ ∀ (k : Nat) (v : Value), lv[k]? = some (some v) → ls[k]? = some (.val v) ∧ v.category = 1
def gAs (lv : List (Option Value)) : List (Nat × Value) := (List.range lv.length).filterMap (fun k => (lv[k]?.join).map (fun v => (k, v)))
theorem gAs_mem {lv : List (Option Value)} {q : Nat × Value} : q ∈ gAs lv ↔ lv[q.1]? = some (some q.2) := by
  obtain ⟨k, v⟩ := q
  unfold gAs
  rw [List.mem_filterMap]
  constructor
  · rintro ⟨a, -, h⟩
    rw [Option.map_eq_some_iff] at h
    obtain ⟨w, h1, h2⟩ := h
    cases h2
    exact Option.join_eq_some_iff.mp h1
  · intro h
    refine ⟨k, List.mem_range.mpr (List.getElem?_eq_some_iff.mp h).1, ?_⟩
    simp only [] at h
    rw [h]
    rfl
theorem gL_has {ls : Array Slot} {lv : List (Option Value)} (h : gL ls lv) : lv_has ls lv.length (gAs lv) := ⟨h.1, h.2.1, fun q hq => (h.2.2 q.1 q.2 (gAs_mem.mp hq)).1⟩
theorem gL_put {ls ls' : Array Slot} {lv : List (Option Value)} {i : Nat} {v : Value} (h : gL ls lv) (hc : v.category = 1) (h' : lv_has ls' lv.length ((i, v) :: (gAs lv).filter (fun q => !(q.1 == i) && !(q.1 + 1 == i && q.2.category == 2)))) : gL ls' (lv.set i (some v)) := by
  refine ⟨by rw [h'.1, List.length_set], h'.2.1, fun k w hk => ?_⟩
  by_cases hki : k = i
  · subst hki
    rw [List.getElem?_set_self (by have := (List.getElem?_eq_some_iff.mp hk).1; rwa [List.length_set] at this)] at hk
    cases hk
    exact ⟨h'.2.2 _ List.mem_cons_self, hc⟩
  · rw [List.getElem?_set_ne (Ne.symm hki)] at hk
    obtain ⟨h1, h2⟩ := h.2.2 k w hk
    refine ⟨h'.2.2 (k, w) (List.mem_cons_of_mem _ (List.mem_filter.mpr ⟨gAs_mem.mpr hk, ?_⟩)), h2⟩
    simp [hki, h2]
theorem gL_entry {l : List Value} {n : Nat} (hn : l.length ≤ n) (hc : ∀ v ∈ l, v.category = 1) {ls : Array Slot} (h : lv_has ls n (lv_args 0 l)) : gL ls (l.map some ++ List.replicate (n - l.length) none) := by
  have key : ∀ (l : List Value) (i : Nat), (∀ v ∈ l, v.category = 1) → ∀ (k : Nat) (v : Value), l[k]? = some v → (i + k, v) ∈ lv_args i l := by
    intro l
    induction l with
    | nil => intro i _ k v h; simp at h
    | cons w l ih =>
      intro i hc k v h
      have hw : w.category = 1 := hc w List.mem_cons_self
      cases k with
      | zero =>
        rw [List.getElem?_cons_zero] at h
        cases h
        simp [lv_args]
      | succ k =>
        rw [List.getElem?_cons_succ] at h
        have := ih (i + 1) (fun v hv => hc v (List.mem_cons_of_mem _ hv)) k v h
        simp only [lv_args, hw]
        rw [show i + (k + 1) = i + 1 + k by omega]
        exact List.mem_cons_of_mem _ this
  refine ⟨by rw [h.1]; simp; omega, h.2.1, fun k v hk => ?_⟩
  by_cases hl : k < l.length
  · rw [List.getElem?_append_left (by simpa using hl), List.getElem?_map, Option.map_eq_some_iff] at hk
    obtain ⟨w, h1, h2⟩ := hk
    cases h2
    have := h.2.2 _ (key l 0 hc k v h1)
    rw [Nat.zero_add] at this
    exact ⟨this, hc v (List.mem_of_getElem? h1)⟩
  · rw [List.getElem?_append_right (by simpa using hl), List.getElem?_replicate] at hk
    split at hk <;> cases hk
