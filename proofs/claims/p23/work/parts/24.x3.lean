set_option maxRecDepth 100000 in
theorem flX0_grantAll_50 : Cond.fieldLink RX0 50 (TX0 15).1 (TX0 15).2.1 (TX0 15).2.2.1 ∈ wsX0_grantAll := by decide +kernel
set_option maxRecDepth 100000 in
theorem flX0_grantAll_53 : Cond.fieldLink RX0 53 (TX0 0).1 (TX0 0).2.1 (TX0 0).2.2.1 ∈ wsX0_grantAll := by decide +kernel
set_option maxRecDepth 100000 in
theorem flX0_grantAll_78 : Cond.fieldLink RX0 78 (TX0 6).1 (TX0 6).2.1 (TX0 6).2.2.1 ∈ wsX0_grantAll := by decide +kernel
set_option maxRecDepth 100000 in
theorem flX0_grantRound_34 : Cond.fieldLink RX0 34 (TX0 10).1 (TX0 10).2.1 (TX0 10).2.2.1 ∈ wsX0_grantRound := by decide +kernel
set_option maxRecDepth 100000 in
theorem flX0_grantRound_47 : Cond.fieldLink RX0 47 (TX0 14).1 (TX0 14).2.1 (TX0 14).2.2.1 ∈ wsX0_grantRound := by decide +kernel
set_option maxRecDepth 100000 in
theorem flX0_grantRound_50 : Cond.fieldLink RX0 50 (TX0 15).1 (TX0 15).2.1 (TX0 15).2.2.1 ∈ wsX0_grantRound := by decide +kernel
set_option maxRecDepth 100000 in
theorem flX0_grantRound_78 : Cond.fieldLink RX0 78 (TX0 6).1 (TX0 6).2.1 (TX0 6).2.2.1 ∈ wsX0_grantRound := by decide +kernel
set_option maxRecDepth 100000 in
theorem flX0_moveGranted_13 : Cond.fieldLink RX0 13 (TX0 2).1 (TX0 2).2.1 (TX0 2).2.2.1 ∈ wsX0_moveGranted := by decide +kernel
set_option maxRecDepth 100000 in
theorem flX0_moveGranted_41 : Cond.fieldLink RX0 41 (TX0 12).1 (TX0 12).2.1 (TX0 12).2.2.1 ∈ wsX0_moveGranted := by decide +kernel
set_option maxRecDepth 100000 in
theorem flX0_moveGranted_44 : Cond.fieldLink RX0 44 (TX0 13).1 (TX0 13).2.1 (TX0 13).2.2.1 ∈ wsX0_moveGranted := by decide +kernel
set_option maxRecDepth 100000 in
theorem flX0_moveGranted_47 : Cond.fieldLink RX0 47 (TX0 14).1 (TX0 14).2.1 (TX0 14).2.2.1 ∈ wsX0_moveGranted := by decide +kernel
set_option maxRecDepth 100000 in
theorem flX0_moveGranted_50 : Cond.fieldLink RX0 50 (TX0 15).1 (TX0 15).2.1 (TX0 15).2.2.1 ∈ wsX0_moveGranted := by decide +kernel
set_option maxRecDepth 100000 in
theorem flX0_moveGranted_78 : Cond.fieldLink RX0 78 (TX0 6).1 (TX0 6).2.1 (TX0 6).2.2.1 ∈ wsX0_moveGranted := by decide +kernel
set_option maxRecDepth 100000 in
theorem flX0_wishBy_13 : Cond.fieldLink RX0 13 (TX0 2).1 (TX0 2).2.1 (TX0 2).2.2.1 ∈ wsX0_wishBy := by decide +kernel
set_option maxRecDepth 100000 in
theorem flX0_wishBy_16 : Cond.fieldLink RX0 16 (TX0 3).1 (TX0 3).2.1 (TX0 3).2.2.1 ∈ wsX0_wishBy := by decide +kernel
set_option maxRecDepth 100000 in
theorem flX0_wishBy_31 : Cond.fieldLink RX0 31 (TX0 9).1 (TX0 9).2.1 (TX0 9).2.2.1 ∈ wsX0_wishBy := by decide +kernel
set_option maxRecDepth 100000 in
theorem flX0_wishBy_44 : Cond.fieldLink RX0 44 (TX0 13).1 (TX0 13).2.1 (TX0 13).2.2.1 ∈ wsX0_wishBy := by decide +kernel
set_option maxRecDepth 100000 in
theorem flX0_wishBy_99 : Cond.fieldLink RX0 99 (TX0 16).1 (TX0 16).2.1 (TX0 16).2.2.1 ∈ wsX0_wishBy := by decide +kernel
set_option maxRecDepth 100000 in
theorem hdX0_grantAt : yX0_grantAt.cls = RX0 ∧ yX0_grantAt.cls ≠ "java/lang/invoke/MethodHandle" ∧ yX0_grantAt.cls ≠ "java/lang/invoke/VarHandle" ∧ (parseMethodDescriptor yX0_grantAt.desc).map (fun d => d.parameters.length) = some 1 := by decide +kernel
set_option maxRecDepth 100000 in
theorem hdX0_grantRound : yX0_grantRound.cls = RX0 ∧ yX0_grantRound.cls ≠ "java/lang/invoke/MethodHandle" ∧ yX0_grantRound.cls ≠ "java/lang/invoke/VarHandle" ∧ (parseMethodDescriptor yX0_grantRound.desc).map (fun d => d.parameters.length) = some 2 := by decide +kernel
set_option maxRecDepth 100000 in
theorem hdX0_isPlace : yX0_isPlace.cls = RX0 ∧ yX0_isPlace.cls ≠ "java/lang/invoke/MethodHandle" ∧ yX0_isPlace.cls ≠ "java/lang/invoke/VarHandle" ∧ (parseMethodDescriptor yX0_isPlace.desc).map (fun d => d.parameters.length) = some 1 := by decide +kernel
set_option maxRecDepth 100000 in
theorem hdX0_roomLeft : yX0_roomLeft.cls = RX0 ∧ yX0_roomLeft.cls ≠ "java/lang/invoke/MethodHandle" ∧ yX0_roomLeft.cls ≠ "java/lang/invoke/VarHandle" ∧ (parseMethodDescriptor yX0_roomLeft.desc).map (fun d => d.parameters.length) = some 1 := by decide +kernel
set_option maxRecDepth 100000 in
theorem hdX0_wishBy : yX0_wishBy.cls = RX0 ∧ yX0_wishBy.cls ≠ "java/lang/invoke/MethodHandle" ∧ yX0_wishBy.cls ≠ "java/lang/invoke/VarHandle" ∧ (parseMethodDescriptor yX0_wishBy.desc).map (fun d => d.parameters.length) = some 1 := by decide +kernel
set_option maxRecDepth 100000 in
theorem inX0_grantAll : ∀ w ∈ u_ws RX0 TX0 19, w ∈ wsX0_grantAll := by decide +kernel
set_option maxRecDepth 100000 in
theorem inX0_grantRound : ∀ w ∈ u_ws RX0 TX0 19, w ∈ wsX0_grantRound := by decide +kernel
set_option maxRecDepth 100000 in
theorem inX0_moveGranted : ∀ w ∈ u_ws RX0 TX0 19, w ∈ wsX0_moveGranted := by decide +kernel
set_option maxRecDepth 100000 in
theorem inX0_wishBy : ∀ w ∈ u_ws RX0 TX0 19, w ∈ wsX0_wishBy := by decide +kernel
set_option maxRecDepth 100000 in
theorem mwX0_grantRound_min1 : Cond.methodLink RX0 145 Lib.Math.min.name ∈ wsX0_grantRound := by decide +kernel
set_option maxRecDepth 100000 in
theorem mwX0_grantRound_min2 : Cond.static Lib.Math.min.name ∈ wsX0_grantRound := by decide +kernel
set_option maxRecDepth 100000 in
theorem mwX0_grantRound_min3 : Cond.initialized "java/lang/Math" ∈ wsX0_grantRound := by decide +kernel
set_option maxRecDepth 100000 in
theorem mwX0_grantRound_min4 : Cond.code Lib.Math.min.name Lib.Math.min.code 2 (some .int) ∈ wsX0_grantRound := by decide +kernel
set_option maxRecDepth 100000 in
theorem mwX0_wishBy_min1 : Cond.methodLink RX0 145 Lib.Math.min.name ∈ wsX0_wishBy := by decide +kernel
set_option maxRecDepth 100000 in
theorem mwX0_wishBy_min2 : Cond.static Lib.Math.min.name ∈ wsX0_wishBy := by decide +kernel
set_option maxRecDepth 100000 in
theorem mwX0_wishBy_min3 : Cond.initialized "java/lang/Math" ∈ wsX0_wishBy := by decide +kernel
set_option maxRecDepth 100000 in
theorem mwX0_wishBy_min4 : Cond.code Lib.Math.min.name Lib.Math.min.code 2 (some .int) ∈ wsX0_wishBy := by decide +kernel
set_option maxHeartbeats 4000000 in
set_option maxRecDepth 100000 in
theorem cX_wishBy {l : Launch} {D : va_G} {cI cZ : ClassId} {q : Nat} {r : Nat → Nat} {P Dn : Nat} {t la wa : Int} {f0 f1 f2 f3 f4 f5 f6 f7 f8 f9 f10 f11 f12 f13 : Nat → Int} {k : Nat} (hP : 1 ≤ P ∧ P ≤ 11) (hDn : Dn ≤ 16) (hk : k < Dn) (ht : -2147483648 ≤ t ∧ t < 2147483647) (hs2 : ∀ j : Nat, -2147483648 ≤ f2 j ∧ f2 j < 2147483648) (hs11 : ∀ j : Nat, -2147483648 ≤ f11 j ∧ f11 j < 2147483648) (hpe : ∀ j : Nat, 1 ≤ j → j < P → 0 ≤ f1 j ∧ f1 j ≤ f0 j ∧ f0 j ≤ 30) (hp0 : 0 ≤ f1 0 ∧ f1 0 < 1073741824) (hfs : ∀ j : Nat, j < Dn → (1 ≤ f7 j ∧ f7 j ≤ 9) ∧ 1 ≤ f8 j ∧ f8 j ≤ 5) : gMI l yX0_wishBy wsX0_wishBy 1 D (gTy cI cZ) (gX cI cZ q r [(P : Int), (Dn : Int), t, la, wa] [f0, f1, f2, f3, f4, f5, f6, f7, f8, f9, f10, f11, f12, f13]) [.ref q, .int (iI (k : Int))] (pWish (P : Int) t f1 f2 f7 f11 k) (gX cI cZ q r [(P : Int), (Dn : Int), t, la, wa] [f0, f1, f2, f3, f4, f5, f6, f7, f8, f9, f10, f11, f12, f13]) := by
  refine g_ofI (by decide +kernel) rfl rfl (Nat.le_of_ble_eq_true rfl) (g_cat1 rfl) rfl ?_
  intro p e s m args below meth c Q A0 E hret
  have hts := E.1.2.2.2.2
  show gJ p l e (gR 1) s m args below meth c 0 0 Q A0 D (gX cI cZ q r [(P : Int), (Dn : Int), t, la, wa] [f0, f1, f2, f3, f4, f5, f6, f7, f8, f9, f10, f11, f12, f13]) [some (.ref q), some (.int (iI (k : Int))), none] 0 []
  have h11 := hs11 k
  have hk16 : k < 16 := by omega
  by_cases hin : 0 ≤ f11 k ∧ f11 k < (P : Int)
  · have h2 := hs2 (f11 k).toNat
    have h7 := hfs k hk
    have h1 : 0 ≤ f1 (f11 k).toNat ∧ f1 (f11 k).toNat < 1073741824 := by
      rcases Nat.eq_zero_or_pos (f11 k).toNat with e | e
      · rw [e]; exact hp0
      · have := hpe (f11 k).toNat e (by omega); omega
    refine g_aload_n E dX0_wishBy_0 rfl rfl ?_
    refine g_getR E inX0_wishBy rfl flX0_wishBy_44 dX0_wishBy_1 (by decide) rfl ?_
    refine g_iload_n E dX0_wishBy_4 rfl rfl ?_
    refine g_ald E dX0_wishBy_5 rfl rfl rfl (by omega) ?_
    refine g_istore_n E (lv' := [_, _, _]) dX0_wishBy_6 rfl (Nat.le_of_ble_eq_true rfl) rfl ?_
    refine g_aload_n E dX0_wishBy_7 rfl rfl ?_
    refine g_iload_n E dX0_wishBy_8 rfl rfl ?_
    refine g_callI0 E (cX_isPlace (rv := 1) (by omega) (Or.inl ⟨rfl, by omega, by omega⟩)) (cwV 1 hts gX0_wishBy_X0_isPlace rfl rfl rfl hdX0_isPlace ⟨(Nat.le_of_ble_eq_true rfl), (Nat.le_of_ble_eq_true rfl)⟩) rfl rfl rfl (Nat.le_of_ble_eq_true rfl) gW_0 rfl dX0_wishBy_9 ⟨Nat.zero_le _, Nat.zero_le _⟩ ?_
    refine g_if_eq_f E dX0_wishBy_12 (tgt := 28) (by decide) (by omega) (by omega) ?_
    refine g_aload_n E dX0_wishBy_15 rfl rfl ?_
    refine g_getR E inX0_wishBy rfl flX0_wishBy_16 dX0_wishBy_16 (by decide) rfl ?_
    refine g_iload_n E dX0_wishBy_19 rfl rfl ?_
    refine g_ald E dX0_wishBy_20 rfl rfl (i := (f11 k).toNat) (by omega) (by omega) ?_
    refine g_aload_n E dX0_wishBy_21 rfl rfl ?_
    refine g_getI E inX0_wishBy rfl flX0_wishBy_99 dX0_wishBy_22 (by decide) rfl rfl ?_
    refine g_icmp_le E dX0_wishBy_25 (tgt := 30) (by decide) (by omega) (fun h3 => ?_) (fun h3 => ?_)
    · refine g_aload_n E dX0_wishBy_30 rfl rfl ?_
      refine g_getR E inX0_wishBy rfl flX0_wishBy_13 dX0_wishBy_31 (by decide) rfl ?_
      refine g_iload_n E dX0_wishBy_34 rfl rfl ?_
      refine g_ald E dX0_wishBy_35 rfl rfl (i := (f11 k).toNat) (by omega) (by omega) ?_
      refine g_aload_n E dX0_wishBy_36 rfl rfl ?_
      refine g_getR E inX0_wishBy rfl flX0_wishBy_31 dX0_wishBy_37 (by decide) rfl ?_
      refine g_iload_n E dX0_wishBy_40 rfl rfl ?_
      refine g_ald E dX0_wishBy_41 rfl rfl rfl (by omega) ?_
      refine g_mmin E mwX0_wishBy_min1 mwX0_wishBy_min2 mwX0_wishBy_min3 mwX0_wishBy_min4 dX0_wishBy_42 rfl ⟨(Nat.le_of_ble_eq_true rfl), (Nat.le_of_ble_eq_true rfl), Nat.zero_le _, Nat.zero_le _⟩ (by omega) rfl ?_
      exact g_ri (by unfold pWish; exact (if_pos ⟨hin.1, hin.2, h3⟩).symm) hret dX0_wishBy_45
    · refine g_iconst E dX0_wishBy_28 ?_
      exact g_ri (by rw [pWish, if_neg (by omega)]) hret dX0_wishBy_29
  · refine g_aload_n E dX0_wishBy_0 rfl rfl ?_
    refine g_getR E inX0_wishBy rfl flX0_wishBy_44 dX0_wishBy_1 (by decide) rfl ?_
    refine g_iload_n E dX0_wishBy_4 rfl rfl ?_
    refine g_ald E dX0_wishBy_5 rfl rfl rfl (by omega) ?_
    refine g_istore_n E (lv' := [_, _, _]) dX0_wishBy_6 rfl (Nat.le_of_ble_eq_true rfl) rfl ?_
    refine g_aload_n E dX0_wishBy_7 rfl rfl ?_
    refine g_iload_n E dX0_wishBy_8 rfl rfl ?_
    refine g_callI0 E (cX_isPlace (rv := 0) (by omega) (Or.inr ⟨rfl, by omega⟩)) (cwV 1 hts gX0_wishBy_X0_isPlace rfl rfl rfl hdX0_isPlace ⟨(Nat.le_of_ble_eq_true rfl), (Nat.le_of_ble_eq_true rfl)⟩) rfl rfl rfl (Nat.le_of_ble_eq_true rfl) gW_0 rfl dX0_wishBy_9 ⟨Nat.zero_le _, Nat.zero_le _⟩ ?_
    refine g_if_eq_t E dX0_wishBy_12 (tgt := 28) (by decide) (by omega) (by omega) ?_
    refine g_iconst E dX0_wishBy_28 ?_
    exact g_ri (by rw [pWish, if_neg (by omega)]) hret dX0_wishBy_29
set_option maxHeartbeats 4000000 in
set_option maxRecDepth 100000 in
theorem cX_grantRound {l : Launch} {D : va_G} {cI cZ : ClassId} {q : Nat} {r : Nat → Nat} {P Dn : Nat} {t la wa : Int} {f0 f1 f2 f3 f4 f5 f6 f7 f8 f9 f10 f11 f12 f13 : Nat → Int} {pl L : Int} (hP : 1 ≤ P ∧ P ≤ 11) (hDn : Dn ≤ 16) (hp : 0 ≤ pl ∧ pl < 11) (ht : -2147483648 ≤ t ∧ t < 2147483647) (hs2 : ∀ j : Nat, -2147483648 ≤ f2 j ∧ f2 j < 2147483648) (hs11 : ∀ j : Nat, -2147483648 ≤ f11 j ∧ f11 j < 2147483648) (hs12 : ∀ j : Nat, -2147483648 ≤ f12 j ∧ f12 j < 2147483648) (hpe : ∀ j : Nat, 1 ≤ j → j < P → 0 ≤ f1 j ∧ f1 j ≤ f0 j ∧ f0 j ≤ 30) (hp0 : 0 ≤ f1 0 ∧ f1 0 < 1073741824) (hfs : ∀ j : Nat, j < Dn → (1 ≤ f7 j ∧ f7 j ≤ 9) ∧ 1 ≤ f8 j ∧ f8 j ≤ 5) (hg : gGI (pWish (P : Int) t f1 f2 f7 f11) f8 f13 L Dn) : gMI l yX0_grantRound wsX0_grantRound 2 D (gTy cI cZ) (gX cI cZ q r [(P : Int), (Dn : Int), t, la, wa] [f0, f1, f2, f3, f4, f5, f6, f7, f8, f9, f10, f11, f12, f13]) [.ref q, .int (iI pl), .int (iI L)] (L - (pG (pWish (P : Int) t f1 f2 f7 f11) f8 f12 pl f13 L Dn).2) (gX cI cZ q r [(P : Int), (Dn : Int), t, la, wa] [f0, f1, f2, f3, f4, f5, f6, f7, f8, f9, f10, f11, f12, (pG (pWish (P : Int) t f1 f2 f7 f11) f8 f12 pl f13 L Dn).1]) := by
  refine g_ofI (by decide +kernel) rfl rfl (Nat.le_of_ble_eq_true rfl) (g_cat1 rfl) rfl ?_
  intro p e s m args below meth c Q A0 E hret
  have hts := E.1.2.2.2.2
  show gJ p l e (gR 2) s m args below meth c 0 0 Q A0 D (gX cI cZ q r [(P : Int), (Dn : Int), t, la, wa] [f0, f1, f2, f3, f4, f5, f6, f7, f8, f9, f10, f11, f12, f13]) [some (.ref q), some (.int (iI pl)), some (.int (iI L)), none, none, none, none] 0 []
  have key : ∀ k : Nat, k ≤ Dn → ∀ a b : Option Value, gJ p l e (gR 2) s m args below meth c 0 0 Q A0 D (gX cI cZ q r [(P : Int), (Dn : Int), t, la, wa] [f0, f1, f2, f3, f4, f5, f6, f7, f8, f9, f10, f11, f12, (pG (pWish (P : Int) t f1 f2 f7 f11) f8 f12 pl f13 L k).1]) [some (.ref q), some (.int (iI pl)), some (.int (iI L)), some (.int (iI (pG (pWish (P : Int) t f1 f2 f7 f11) f8 f12 pl f13 L k).2)), some (.int (iI k)), a, b] 5 [] := by
    refine g_loop _ Dn ?_ ?_
    · intro a b
      refine g_iload E dX0_grantRound_5 rfl ?_
      refine g_aload_n E dX0_grantRound_7 rfl rfl ?_
      refine g_getI E inX0_grantRound rfl flX0_grantRound_78 dX0_grantRound_8 (by decide) rfl rfl ?_
      refine g_icmp_ge_t E dX0_grantRound_11 (tgt := 82) (by decide) (by omega) (by omega) ?_
      refine g_iload_n E dX0_grantRound_82 rfl rfl ?_
      refine g_iload_n E dX0_grantRound_83 rfl rfl ?_
      refine g_isub E dX0_grantRound_84 ?_
      exact g_ri rfl hret dX0_grantRound_85
    · intro k hk ih a b
      have h12 := hs12 k
      obtain ⟨⟨i1, i2, i3⟩, i4⟩ := pG_inv (tg := f12) (p := pl) hg k (by omega)
      obtain ⟨⟨j1, j2⟩, j3, j4, j5⟩ := i1 k hk
      refine g_iload E dX0_grantRound_5 rfl ?_
      refine g_aload_n E dX0_grantRound_7 rfl rfl ?_
      refine g_getI E inX0_grantRound rfl flX0_grantRound_78 dX0_grantRound_8 (by decide) rfl rfl ?_
      refine g_icmp_ge_f E dX0_grantRound_11 (tgt := 82) (by decide) (by omega) (by omega) ?_
      refine g_aload_n E dX0_grantRound_14 rfl rfl ?_
      refine g_getR E inX0_grantRound rfl flX0_grantRound_47 dX0_grantRound_15 (by decide) rfl ?_
      refine g_iload E dX0_grantRound_18 rfl ?_
      refine g_ald E dX0_grantRound_20 rfl rfl rfl (by omega) ?_
      refine g_iload_n E dX0_grantRound_21 rfl rfl ?_
      refine g_icmp_ne E dX0_grantRound_22 (tgt := 76) (by decide) (by omega) (fun h1 => ?_) (fun h1 => ?_)
      · have e9 : pG (pWish (P : Int) t f1 f2 f7 f11) f8 f12 pl f13 L (k + 1) = (pG (pWish (P : Int) t f1 f2 f7 f11) f8 f12 pl f13 L k) := if_neg h1
        refine g_iinc E (lv' := [_, _, _, _, _, _, _]) dX0_grantRound_76 rfl rfl ?_
        refine g_goto E dX0_grantRound_79 (tgt := 5) (by decide) ?_
        exact g_eq (ih a b) (by rw [e9]) (by rw [e9]; rfl) rfl
      · have h1' : f12 k = pl := by omega
        have e9 : pG (pWish (P : Int) t f1 f2 f7 f11) f8 f12 pl f13 L (k + 1) = (gu (pG (pWish (P : Int) t f1 f2 f7 f11) f8 f12 pl f13 L k).1 k ((pG (pWish (P : Int) t f1 f2 f7 f11) f8 f12 pl f13 L k).1 k + pMin (pMin (f8 k) ((pWish (P : Int) t f1 f2 f7 f11) k - (pG (pWish (P : Int) t f1 f2 f7 f11) f8 f12 pl f13 L k).1 k)) (pG (pWish (P : Int) t f1 f2 f7 f11) f8 f12 pl f13 L k).2), (pG (pWish (P : Int) t f1 f2 f7 f11) f8 f12 pl f13 L k).2 - pMin (pMin (f8 k) ((pWish (P : Int) t f1 f2 f7 f11) k - (pG (pWish (P : Int) t f1 f2 f7 f11) f8 f12 pl f13 L k).1 k)) (pG (pWish (P : Int) t f1 f2 f7 f11) f8 f12 pl f13 L k).2) := if_pos h1'
        have c1 := pMin_c (f8 k) ((pWish (P : Int) t f1 f2 f7 f11) k - (pG (pWish (P : Int) t f1 f2 f7 f11) f8 f12 pl f13 L k).1 k)
        refine g_aload_n E dX0_grantRound_25 rfl rfl ?_
        refine g_iload E dX0_grantRound_26 rfl ?_
        refine g_callI0 E (cX_wishBy hP hDn hk ht hs2 hs11 hpe hp0 hfs) (cwV 1 hts gX0_grantRound_X0_wishBy rfl rfl rfl hdX0_wishBy ⟨(Nat.le_of_ble_eq_true rfl), (Nat.le_of_ble_eq_true rfl)⟩) rfl rfl rfl (Nat.le_of_ble_eq_true rfl) gW_0 rfl dX0_grantRound_28 ⟨Nat.zero_le _, Nat.zero_le _⟩ ?_
        refine g_aload_n E dX0_grantRound_31 rfl rfl ?_
        refine g_getR E inX0_grantRound rfl flX0_grantRound_50 dX0_grantRound_32 (by decide) rfl ?_
        refine g_iload E dX0_grantRound_35 rfl ?_
        refine g_ald E dX0_grantRound_37 rfl rfl rfl (by omega) ?_
        refine g_isub E dX0_grantRound_38 ?_
        refine g_istore E (lv' := [_, _, _, _, _, _, _]) dX0_grantRound_39 (Nat.le_of_ble_eq_true rfl) rfl ?_
        refine g_aload_n E dX0_grantRound_41 rfl rfl ?_
        refine g_getR E inX0_grantRound rfl flX0_grantRound_34 dX0_grantRound_42 (by decide) rfl ?_
        refine g_iload E dX0_grantRound_45 rfl ?_
        refine g_ald E dX0_grantRound_47 rfl rfl rfl (by omega) ?_
        refine g_iload E dX0_grantRound_48 rfl ?_
        refine g_mmin E mwX0_grantRound_min1 mwX0_grantRound_min2 mwX0_grantRound_min3 mwX0_grantRound_min4 dX0_grantRound_50 rfl ⟨(Nat.le_of_ble_eq_true rfl), (Nat.le_of_ble_eq_true rfl), Nat.zero_le _, Nat.zero_le _⟩ (v := pMin (f8 k) ((pWish (P : Int) t f1 f2 f7 f11) k - (pG (pWish (P : Int) t f1 f2 f7 f11) f8 f12 pl f13 L k).1 k)) (by omega) rfl ?_
        refine g_iload_n E dX0_grantRound_53 rfl rfl ?_
        refine g_mmin E mwX0_grantRound_min1 mwX0_grantRound_min2 mwX0_grantRound_min3 mwX0_grantRound_min4 dX0_grantRound_54 rfl ⟨(Nat.le_of_ble_eq_true rfl), (Nat.le_of_ble_eq_true rfl), Nat.zero_le _, Nat.zero_le _⟩ (v := pMin (pMin (f8 k) ((pWish (P : Int) t f1 f2 f7 f11) k - (pG (pWish (P : Int) t f1 f2 f7 f11) f8 f12 pl f13 L k).1 k)) (pG (pWish (P : Int) t f1 f2 f7 f11) f8 f12 pl f13 L k).2) (by omega) rfl ?_
        refine g_istore E (lv' := [_, _, _, _, _, _, _]) dX0_grantRound_57 (Nat.le_of_ble_eq_true rfl) rfl ?_
        refine g_aload_n E dX0_grantRound_59 rfl rfl ?_
        refine g_getR E inX0_grantRound rfl flX0_grantRound_50 dX0_grantRound_60 (by decide) rfl ?_
        refine g_iload E dX0_grantRound_63 rfl ?_
        refine g_dup2 E dX0_grantRound_65 rfl rfl ?_
        refine g_ald E dX0_grantRound_66 rfl rfl rfl (by omega) ?_
        refine g_iload E dX0_grantRound_67 rfl ?_
        refine g_iadd E dX0_grantRound_69 ?_
        refine g_ast E (A' := [_, _, _, _, _, _, _, _, _, _, _, _, _, _]) dX0_grantRound_70 rfl rfl rfl (by omega) rfl ?_
        refine g_iload_n E dX0_grantRound_71 rfl rfl ?_
        refine g_iload E dX0_grantRound_72 rfl ?_
        refine g_isub E dX0_grantRound_74 ?_
        refine g_istore_n E (lv' := [_, _, _, _, _, _, _]) dX0_grantRound_75 rfl (Nat.le_of_ble_eq_true rfl) rfl ?_
        refine g_iinc E (lv' := [_, _, _, _, _, _, _]) dX0_grantRound_76 rfl rfl ?_
        refine g_goto E dX0_grantRound_79 (tgt := 5) (by decide) ?_
        exact g_eq (ih _ _) (by rw [e9]) (by rw [e9]; rfl) rfl
  refine g_iload_n E dX0_grantRound_0 rfl rfl ?_
  refine g_istore_n E (lv' := [_, _, _, _, _, _, _]) dX0_grantRound_1 rfl (Nat.le_of_ble_eq_true rfl) rfl ?_
  refine g_iconst E dX0_grantRound_2 ?_
  refine g_istore E (lv' := [_, _, _, _, _, _, _]) dX0_grantRound_3 (Nat.le_of_ble_eq_true rfl) rfl ?_
  exact key 0 (by omega) _ _
set_option maxHeartbeats 4000000 in
set_option maxRecDepth 100000 in
theorem cX_grantAt {l : Launch} {D : va_G} {cI cZ : ClassId} {q : Nat} {r : Nat → Nat} {P Dn : Nat} {t la wa : Int} {f0 f1 f2 f3 f4 f5 f6 f7 f8 f9 f10 f11 f12 f13 : Nat → Int} {pl : Nat} (hP : 1 ≤ P ∧ P ≤ 11) (hDn : Dn ≤ 16) (hp : pl < P) (ht : -2147483648 ≤ t ∧ t < 2147483647) (hs2 : ∀ j : Nat, -2147483648 ≤ f2 j ∧ f2 j < 2147483648) (hs11 : ∀ j : Nat, -2147483648 ≤ f11 j ∧ f11 j < 2147483648) (hs12 : ∀ j : Nat, -2147483648 ≤ f12 j ∧ f12 j < 2147483648) (hpe : ∀ j : Nat, 1 ≤ j → j < P → 0 ≤ f1 j ∧ f1 j ≤ f0 j ∧ f0 j ≤ 30) (hp0 : 0 ≤ f1 0 ∧ f1 0 < 1073741824) (hfs : ∀ j : Nat, j < Dn → (1 ≤ f7 j ∧ f7 j ≤ 9) ∧ 1 ≤ f8 j ∧ f8 j ≤ 5) (hg : gGI (pWish (P : Int) t f1 f2 f7 f11) f8 f13 (pRoom f0 f1 pl) Dn) : gMV l yX0_grantAt wsX0_grantAt 3 D (gTy cI cZ) (gX cI cZ q r [(P : Int), (Dn : Int), t, la, wa] [f0, f1, f2, f3, f4, f5, f6, f7, f8, f9, f10, f11, f12, f13]) [.ref q, .int (iI (pl : Int))] (gX cI cZ q r [(P : Int), (Dn : Int), t, la, wa] [f0, f1, f2, f3, f4, f5, f6, f7, f8, f9, f10, f11, f12, (pR (pWish (P : Int) t f1 f2 f7 f11) f8 f12 (pl : Int) Dn f13 (pRoom f0 f1 pl) 9).1]) := by
  refine g_ofV (by decide +kernel) rfl rfl (Nat.le_of_ble_eq_true rfl) (g_cat1 rfl) ?_
  intro p e s m args below meth c Q A0 E hret
  have hts := E.1.2.2.2.2
  show gJ p l e (gR 3) s m args below meth c 0 0 Q A0 D (gX cI cZ q r [(P : Int), (Dn : Int), t, la, wa] [f0, f1, f2, f3, f4, f5, f6, f7, f8, f9, f10, f11, f12, f13]) [some (.ref q), some (.int (iI (pl : Int))), none, none, none] 0 []
  have key : ∀ k : Nat, k ≤ 9 → ∀ a : Option Value, gJ p l e (gR 3) s m args below meth c 0 0 Q A0 D (gX cI cZ q r [(P : Int), (Dn : Int), t, la, wa] [f0, f1, f2, f3, f4, f5, f6, f7, f8, f9, f10, f11, f12, (pR (pWish (P : Int) t f1 f2 f7 f11) f8 f12 (pl : Int) Dn f13 (pRoom f0 f1 pl) k).1]) [some (.ref q), some (.int (iI pl)), some (.int (iI (pR (pWish (P : Int) t f1 f2 f7 f11) f8 f12 (pl : Int) Dn f13 (pRoom f0 f1 pl) k).2)), some (.int (iI k)), a] 8 [] := by
    refine g_loop _ 9 ?_ ?_
    · intro a
      refine g_iload_n E dX0_grantAt_8 rfl rfl ?_
      refine g_bipush E dX0_grantAt_9 (by decide) ?_
      refine g_icmp_ge_t E dX0_grantAt_11 (tgt := 39) (by decide) (by omega) (by omega) ?_
      exact hret _ _ dX0_grantAt_39
    · intro k hk ih a
      have inv := pR_inv (tg := f12) (p := (pl : Int)) hg k
      have inv2 := pR_inv (tg := f12) (p := (pl : Int)) hg (k + 1)
      have b1 := inv.2
      have b2 := inv2.2
      refine g_iload_n E dX0_grantAt_8 rfl rfl ?_
      refine g_bipush E dX0_grantAt_9 (by decide) ?_
      refine g_icmp_ge_f E dX0_grantAt_11 (tgt := 39) (by decide) (by omega) (by omega) ?_
      refine g_aload_n E dX0_grantAt_14 rfl rfl ?_
      refine g_iload_n E dX0_grantAt_15 rfl rfl ?_
      refine g_iload_n E dX0_grantAt_16 rfl rfl ?_
      refine g_callI0 E (cX_grantRound hP hDn (by omega) ht hs2 hs11 hs12 hpe hp0 hfs inv) (cwV 2 hts gX0_grantAt_X0_grantRound rfl rfl rfl hdX0_grantRound ⟨(Nat.le_of_ble_eq_true rfl), (Nat.le_of_ble_eq_true rfl)⟩) rfl rfl rfl (Nat.le_of_ble_eq_true rfl) gW_0 rfl dX0_grantAt_17 ⟨Nat.zero_le _, Nat.zero_le _⟩ ?_
      refine g_istore E (lv' := [_, _, _, _, _]) dX0_grantAt_20 (Nat.le_of_ble_eq_true rfl) rfl ?_
      refine g_iload E dX0_grantAt_22 rfl ?_
      have e8 : pG (pWish (P : Int) t f1 f2 f7 f11) f8 f12 (pl : Int) (pR (pWish (P : Int) t f1 f2 f7 f11) f8 f12 (pl : Int) Dn f13 (pRoom f0 f1 pl) k).1 (pR (pWish (P : Int) t f1 f2 f7 f11) f8 f12 (pl : Int) Dn f13 (pRoom f0 f1 pl) k).2 Dn = (pR (pWish (P : Int) t f1 f2 f7 f11) f8 f12 (pl : Int) Dn f13 (pRoom f0 f1 pl) (k + 1)) := rfl
      rw [e8]
      refine g_if_ne E dX0_grantAt_24 (tgt := 28) (by decide) (by omega) (fun h1 => ?_) (fun h1 => ?_)
      · refine g_iload_n E dX0_grantAt_28 rfl rfl ?_
        refine g_iload E dX0_grantAt_29 rfl ?_
        refine g_isub E dX0_grantAt_31 ?_
        refine g_istore_n E (lv' := [_, _, _, _, _]) dX0_grantAt_32 rfl (Nat.le_of_ble_eq_true rfl) rfl ?_
        refine g_iinc E (lv' := [_, _, _, _, _]) dX0_grantAt_33 rfl rfl ?_
        refine g_goto E dX0_grantAt_36 (tgt := 8) (by decide) ?_
        exact g_eq (ih (some (.int (iI ((pR (pWish (P : Int) t f1 f2 f7 f11) f8 f12 (pl : Int) Dn f13 (pRoom f0 f1 pl) k).2 - (pR (pWish (P : Int) t f1 f2 f7 f11) f8 f12 (pl : Int) Dn f13 (pRoom f0 f1 pl) (k + 1)).2))))) rfl (by rw [show (pR (pWish (P : Int) t f1 f2 f7 f11) f8 f12 (pl : Int) Dn f13 (pRoom f0 f1 pl) k).2 - ((pR (pWish (P : Int) t f1 f2 f7 f11) f8 f12 (pl : Int) Dn f13 (pRoom f0 f1 pl) k).2 - (pR (pWish (P : Int) t f1 f2 f7 f11) f8 f12 (pl : Int) Dn f13 (pRoom f0 f1 pl) (k + 1)).2) = (pR (pWish (P : Int) t f1 f2 f7 f11) f8 f12 (pl : Int) Dn f13 (pRoom f0 f1 pl) (k + 1)).2 by omega]; rfl) rfl
      · have e9 := pR_out hg (tg := f12) (p := (pl : Int)) (n := k) (N := 9) (by omega) (by omega)
        rw [e9] at hret
        exact hret _ _ dX0_grantAt_27
  refine g_aload_n E dX0_grantAt_0 rfl rfl ?_
  refine g_iload_n E dX0_grantAt_1 rfl rfl ?_
  refine g_callI0 E (cX_roomLeft (i := pl) ⟨rfl, by omega⟩ rfl) (cwV 1 hts gX0_grantAt_X0_roomLeft rfl rfl rfl hdX0_roomLeft ⟨(Nat.le_of_ble_eq_true rfl), (Nat.le_of_ble_eq_true rfl)⟩) rfl rfl rfl (Nat.le_of_ble_eq_true rfl) gW_0 rfl dX0_grantAt_2 ⟨Nat.zero_le _, Nat.zero_le _⟩ ?_
  refine g_istore_n E (lv' := [_, _, _, _, _]) dX0_grantAt_5 rfl (Nat.le_of_ble_eq_true rfl) rfl ?_
  refine g_iconst E dX0_grantAt_6 ?_
  refine g_istore_n E (lv' := [_, _, _, _, _]) dX0_grantAt_7 rfl (Nat.le_of_ble_eq_true rfl) rfl ?_
  exact key 0 (by omega) _
set_option maxHeartbeats 4000000 in
set_option maxRecDepth 100000 in
theorem cX_grantAll {l : Launch} {D : va_G} {cI cZ : ClassId} {q : Nat} {r : Nat → Nat} {P Dn : Nat} {t la wa : Int} {f0 f1 f2 f3 f4 f5 f6 f7 f8 f9 f10 f11 f12 f13 : Nat → Int} (hP : 1 ≤ P ∧ P ≤ 11) (hDn : Dn ≤ 16) (ht : -2147483648 ≤ t ∧ t < 2147483647) (hs2 : ∀ j : Nat, -2147483648 ≤ f2 j ∧ f2 j < 2147483648) (hs11 : ∀ j : Nat, -2147483648 ≤ f11 j ∧ f11 j < 2147483648) (hs12 : ∀ j : Nat, -2147483648 ≤ f12 j ∧ f12 j < 2147483648) (hpe : ∀ j : Nat, 1 ≤ j → j < P → 0 ≤ f1 j ∧ f1 j ≤ f0 j ∧ f0 j ≤ 30) (hp0 : 0 ≤ f1 0 ∧ f1 0 < 1073741824) (hfs : ∀ j : Nat, j < Dn → (1 ≤ f7 j ∧ f7 j ≤ 9) ∧ 1 ≤ f8 j ∧ f8 j ≤ 5) : gMV l yX0_grantAll wsX0_grantAll 4 D (gTy cI cZ) (gX cI cZ q r [(P : Int), (Dn : Int), t, la, wa] [f0, f1, f2, f3, f4, f5, f6, f7, f8, f9, f10, f11, f12, f13]) [.ref q] (gX cI cZ q r [(P : Int), (Dn : Int), t, la, wa] [f0, f1, f2, f3, f4, f5, f6, f7, f8, f9, f10, f11, f12, (pA (pWish (P : Int) t f1 f2 f7 f11) f8 f12 f0 f1 Dn (pZ f13 Dn) P)]) := by
  refine g_ofV (by decide +kernel) rfl rfl (Nat.le_of_ble_eq_true rfl) (g_cat1 rfl) ?_
  intro p e s m args below meth c Q A0 E hret
  have hts := E.1.2.2.2.2
  show gJ p l e (gR 4) s m args below meth c 0 0 Q A0 D (gX cI cZ q r [(P : Int), (Dn : Int), t, la, wa] [f0, f1, f2, f3, f4, f5, f6, f7, f8, f9, f10, f11, f12, f13]) [some (.ref q), none] 0 []
  have hw := pWish_B (P := (P : Int)) (t := t) (pe := f1) (re := f2) (fl := f7) (sr := f11) (Dn := Dn) (fun j h1 h2 => (hpe j h2 (by omega)).1) hp0.1 (fun j hj => (hfs j hj).1)
  have hz : ∀ j, j < Dn → (0 ≤ pZ f13 Dn j ∧ pZ f13 Dn j ≤ (pWish (P : Int) t f1 f2 f7 f11) j) ∧ (pWish (P : Int) t f1 f2 f7 f11) j ≤ 9 ∧ 1 ≤ f8 j ∧ f8 j ≤ 5 := fun j hj => by
    have h1 := hw j hj
    have h2 := hfs j hj
    rw [pZ_0 Dn j hj]
    omega
  have hr : ∀ p : Nat, p < P → 0 ≤ pRoom f0 f1 p ∧ pRoom f0 f1 p < 2147483648 := fun p hp => by
    unfold pRoom
    split
    · omega
    · have := hpe p (by omega) hp
      omega
  have key2 : ∀ k : Nat, k ≤ P → gJ p l e (gR 4) s m args below meth c 0 0 Q A0 D (gX cI cZ q r [(P : Int), (Dn : Int), t, la, wa] [f0, f1, f2, f3, f4, f5, f6, f7, f8, f9, f10, f11, f12, (pA (pWish (P : Int) t f1 f2 f7 f11) f8 f12 f0 f1 Dn (pZ f13 Dn) k)]) [some (.ref q), some (.int (iI k))] 25 [] := by
    refine g_loop _ P ?_ ?_
    · refine g_iload_n E dX0_grantAll_25 rfl rfl ?_
      refine g_aload_n E dX0_grantAll_26 rfl rfl ?_
      refine g_getI E inX0_grantAll rfl flX0_grantAll_53 dX0_grantAll_27 (by decide) rfl rfl ?_
      refine g_icmp_ge_t E dX0_grantAll_30 (tgt := 44) (by decide) (by omega) (by omega) ?_
      exact hret _ _ dX0_grantAll_44
    · intro k hk ih
      refine g_iload_n E dX0_grantAll_25 rfl rfl ?_
      refine g_aload_n E dX0_grantAll_26 rfl rfl ?_
      refine g_getI E inX0_grantAll rfl flX0_grantAll_53 dX0_grantAll_27 (by decide) rfl rfl ?_
      refine g_icmp_ge_f E dX0_grantAll_30 (tgt := 44) (by decide) (by omega) (by omega) ?_
      refine g_aload_n E dX0_grantAll_33 rfl rfl ?_
      refine g_iload_n E dX0_grantAll_34 rfl rfl ?_
      refine g_callV0 E (cX_grantAt hP hDn hk ht hs2 hs11 hs12 hpe hp0 hfs (pA_gGI (tg := f12) hz hr hk)) (cwV 1 hts gX0_grantAll_X0_grantAt rfl rfl rfl hdX0_grantAt ⟨(Nat.le_of_ble_eq_true rfl), (Nat.le_of_ble_eq_true rfl)⟩) rfl rfl rfl (Nat.le_of_ble_eq_true rfl) gW_0 rfl dX0_grantAll_35 ⟨Nat.zero_le _, Nat.zero_le _⟩ ?_
      refine g_iinc E (lv' := [_, _]) dX0_grantAll_38 rfl rfl ?_
      refine g_goto E dX0_grantAll_41 (tgt := 25) (by decide) ?_
      exact ih
  have key1 : ∀ k : Nat, k ≤ Dn → gJ p l e (gR 4) s m args below meth c 0 0 Q A0 D (gX cI cZ q r [(P : Int), (Dn : Int), t, la, wa] [f0, f1, f2, f3, f4, f5, f6, f7, f8, f9, f10, f11, f12, (pZ f13 k)]) [some (.ref q), some (.int (iI k))] 2 [] := by
    refine g_loop _ Dn ?_ ?_
    · refine g_iload_n E dX0_grantAll_2 rfl rfl ?_
      refine g_aload_n E dX0_grantAll_3 rfl rfl ?_
      refine g_getI E inX0_grantAll rfl flX0_grantAll_78 dX0_grantAll_4 (by decide) rfl rfl ?_
      refine g_icmp_ge_t E dX0_grantAll_7 (tgt := 23) (by decide) (by omega) (by omega) ?_
      refine g_iconst E dX0_grantAll_23 ?_
      refine g_istore_n E (lv' := [_, _]) dX0_grantAll_24 rfl (Nat.le_of_ble_eq_true rfl) rfl ?_
      exact key2 0 (by omega)
    · intro k hk ih
      refine g_iload_n E dX0_grantAll_2 rfl rfl ?_
      refine g_aload_n E dX0_grantAll_3 rfl rfl ?_
      refine g_getI E inX0_grantAll rfl flX0_grantAll_78 dX0_grantAll_4 (by decide) rfl rfl ?_
      refine g_icmp_ge_f E dX0_grantAll_7 (tgt := 23) (by decide) (by omega) (by omega) ?_
      refine g_aload_n E dX0_grantAll_10 rfl rfl ?_
      refine g_getR E inX0_grantAll rfl flX0_grantAll_50 dX0_grantAll_11 (by decide) rfl ?_
      refine g_iload_n E dX0_grantAll_14 rfl rfl ?_
      refine g_iconst E dX0_grantAll_15 ?_
      refine g_ast E (A' := [_, _, _, _, _, _, _, _, _, _, _, _, _, _]) dX0_grantAll_16 rfl rfl rfl (by omega) rfl ?_
      refine g_iinc E (lv' := [_, _]) dX0_grantAll_17 rfl rfl ?_
      refine g_goto E dX0_grantAll_20 (tgt := 2) (by decide) ?_
      exact ih
  refine g_iconst E dX0_grantAll_0 ?_
  refine g_istore_n E (lv' := [_, _]) dX0_grantAll_1 rfl (Nat.le_of_ble_eq_true rfl) rfl ?_
  exact key1 0 (by omega)
set_option maxHeartbeats 4000000 in
set_option maxRecDepth 100000 in
theorem cX_moveGranted {l : Launch} {D : va_G} {cI cZ : ClassId} {q : Nat} {r : Nat → Nat} {P Dn : Nat} {t la wa : Int} {f0 f1 f2 f3 f4 f5 f6 f7 f8 f9 f10 f11 f12 f13 : Nat → Int} (hP : 1 ≤ P ∧ P ≤ 11) (hDn : Dn ≤ 16) (hs11 : ∀ j : Nat, -2147483648 ≤ f11 j ∧ f11 j < 2147483648) (hs12 : ∀ j : Nat, -2147483648 ≤ f12 j ∧ f12 j < 2147483648) : gMI l yX0_moveGranted wsX0_moveGranted 1 D (gTy cI cZ) (gX cI cZ q r [(P : Int), (Dn : Int), t, la, wa] [f0, f1, f2, f3, f4, f5, f6, f7, f8, f9, f10, f11, f12, f13]) [.ref q] (pMoved (P : Int) f11 f12 f13 Dn) (gX cI cZ q r [(P : Int), (Dn : Int), t, la, wa] [f0, (pMove (P : Int) f11 f12 f13 f1 Dn), f2, f3, f4, f5, f6, f7, f8, f9, (pPass (P : Int) f11 f12 f13 f10 Dn), f11, f12, f13]) := by
  refine g_ofI (by decide +kernel) rfl rfl (Nat.le_of_ble_eq_true rfl) (g_cat1 rfl) rfl ?_
  intro p e s m args below meth c Q A0 E hret
  have hts := E.1.2.2.2.2
  show gJ p l e (gR 1) s m args below meth c 0 0 Q A0 D (gX cI cZ q r [(P : Int), (Dn : Int), t, la, wa] [f0, f1, f2, f3, f4, f5, f6, f7, f8, f9, f10, f11, f12, f13]) [some (.ref q), none, none, none, none] 0 []
  have key : ∀ k : Nat, k ≤ Dn → ∀ a b : Option Value, gJ p l e (gR 1) s m args below meth c 0 0 Q A0 D (gX cI cZ q r [(P : Int), (Dn : Int), t, la, wa] [f0, (pMove (P : Int) f11 f12 f13 f1 k), f2, f3, f4, f5, f6, f7, f8, f9, (pPass (P : Int) f11 f12 f13 f10 k), f11, f12, f13]) [some (.ref q), some (.int (iI (pMoved (P : Int) f11 f12 f13 k))), some (.int (iI k)), a, b] 4 [] := by
    refine g_loop _ Dn ?_ ?_
    · intro a b
      refine g_iload_n E dX0_moveGranted_4 rfl rfl ?_
      refine g_aload_n E dX0_moveGranted_5 rfl rfl ?_
      refine g_getI E inX0_moveGranted rfl flX0_moveGranted_78 dX0_moveGranted_6 (by decide) rfl rfl ?_
      refine g_icmp_ge_t E dX0_moveGranted_9 (tgt := 105) (by decide) (by omega) (by omega) ?_
      refine g_iload_n E dX0_moveGranted_105 rfl rfl ?_
      exact g_ri rfl hret dX0_moveGranted_106
    · intro k hk ih a b
      have h11 := hs11 k
      have h12 := hs12 k
      have no : ¬ ((0 ≤ f11 k ∧ f11 k < (P : Int)) ∧ (0 ≤ f12 k ∧ f12 k < (P : Int))) → ∀ a b : Option Value, gJ p l e (gR 1) s m args below meth c 0 0 Q A0 D (gX cI cZ q r [(P : Int), (Dn : Int), t, la, wa] [f0, (pMove (P : Int) f11 f12 f13 f1 k), f2, f3, f4, f5, f6, f7, f8, f9, (pPass (P : Int) f11 f12 f13 f10 k), f11, f12, f13]) [some (.ref q), some (.int (iI (pMoved (P : Int) f11 f12 f13 k))), some (.int (iI k)), a, b] 99 [] := by
        intro hn a b
        refine g_iinc E (lv' := [_, _, _, _, _]) dX0_moveGranted_99 rfl rfl ?_
        refine g_goto E dX0_moveGranted_102 (tgt := 4) (by decide) ?_
        exact g_eq (ih a b) (by simp only [pMove, pPass, if_neg hn]) (by simp only [pMoved, if_neg hn]; rfl) rfl
      by_cases h1 : 0 ≤ f11 k ∧ f11 k < (P : Int)
      · by_cases h2 : 0 ≤ f12 k ∧ f12 k < (P : Int)
        · refine g_iload_n E dX0_moveGranted_4 rfl rfl ?_
          refine g_aload_n E dX0_moveGranted_5 rfl rfl ?_
          refine g_getI E inX0_moveGranted rfl flX0_moveGranted_78 dX0_moveGranted_6 (by decide) rfl rfl ?_
          refine g_icmp_ge_f E dX0_moveGranted_9 (tgt := 105) (by decide) (by omega) (by omega) ?_
          refine g_aload_n E dX0_moveGranted_12 rfl rfl ?_
          refine g_getR E inX0_moveGranted rfl flX0_moveGranted_44 dX0_moveGranted_13 (by decide) rfl ?_
          refine g_iload_n E dX0_moveGranted_16 rfl rfl ?_
          refine g_ald E dX0_moveGranted_17 rfl rfl rfl (by omega) ?_
          refine g_istore_n E (lv' := [_, _, _, _, _]) dX0_moveGranted_18 rfl (Nat.le_of_ble_eq_true rfl) rfl ?_
          refine g_aload_n E dX0_moveGranted_19 rfl rfl ?_
          refine g_getR E inX0_moveGranted rfl flX0_moveGranted_47 dX0_moveGranted_20 (by decide) rfl ?_
          refine g_iload_n E dX0_moveGranted_23 rfl rfl ?_
          refine g_ald E dX0_moveGranted_24 rfl rfl rfl (by omega) ?_
          refine g_istore E (lv' := [_, _, _, _, _]) dX0_moveGranted_25 (Nat.le_of_ble_eq_true rfl) rfl ?_
          refine g_aload_n E dX0_moveGranted_27 rfl rfl ?_
          refine g_iload_n E dX0_moveGranted_28 rfl rfl ?_
          refine g_callI0 E (cX_isPlace (rv := 1) (by omega) (Or.inl ⟨rfl, by omega, by omega⟩)) (cwV 1 hts gX0_moveGranted_X0_isPlace rfl rfl rfl hdX0_isPlace ⟨(Nat.le_of_ble_eq_true rfl), (Nat.le_of_ble_eq_true rfl)⟩) rfl rfl rfl (Nat.le_of_ble_eq_true rfl) gW_0 rfl dX0_moveGranted_29 ⟨Nat.zero_le _, Nat.zero_le _⟩ ?_
          refine g_if_eq_f E dX0_moveGranted_32 (tgt := 99) (by decide) (by omega) (by omega) ?_
          refine g_aload_n E dX0_moveGranted_35 rfl rfl ?_
          refine g_iload E dX0_moveGranted_36 rfl ?_
          refine g_callI0 E (cX_isPlace (rv := 1) (by omega) (Or.inl ⟨rfl, by omega, by omega⟩)) (cwV 1 hts gX0_moveGranted_X0_isPlace rfl rfl rfl hdX0_isPlace ⟨(Nat.le_of_ble_eq_true rfl), (Nat.le_of_ble_eq_true rfl)⟩) rfl rfl rfl (Nat.le_of_ble_eq_true rfl) gW_0 rfl dX0_moveGranted_38 ⟨Nat.zero_le _, Nat.zero_le _⟩ ?_
          refine g_if_eq_f E dX0_moveGranted_41 (tgt := 99) (by decide) (by omega) (by omega) ?_
          refine g_aload_n E dX0_moveGranted_44 rfl rfl ?_
          refine g_getR E inX0_moveGranted rfl flX0_moveGranted_13 dX0_moveGranted_45 (by decide) rfl ?_
          refine g_iload_n E dX0_moveGranted_48 rfl rfl ?_
          refine g_dup2 E dX0_moveGranted_49 rfl rfl ?_
          refine g_ald E dX0_moveGranted_50 rfl rfl (i := (f11 k).toNat) (by omega) (by omega) ?_
          refine g_aload_n E dX0_moveGranted_51 rfl rfl ?_
          refine g_getR E inX0_moveGranted rfl flX0_moveGranted_50 dX0_moveGranted_52 (by decide) rfl ?_
          refine g_iload_n E dX0_moveGranted_55 rfl rfl ?_
          refine g_ald E dX0_moveGranted_56 rfl rfl rfl (by omega) ?_
          refine g_isub E dX0_moveGranted_57 ?_
          refine g_ast E (A' := [_, _, _, _, _, _, _, _, _, _, _, _, _, _]) dX0_moveGranted_58 rfl rfl (i := (f11 k).toNat) (by omega) (by omega) rfl ?_
          refine g_aload_n E dX0_moveGranted_59 rfl rfl ?_
          refine g_getR E inX0_moveGranted rfl flX0_moveGranted_13 dX0_moveGranted_60 (by decide) rfl ?_
          refine g_iload E dX0_moveGranted_63 rfl ?_
          refine g_dup2 E dX0_moveGranted_65 rfl rfl ?_
          refine g_ald E dX0_moveGranted_66 rfl rfl (i := (f12 k).toNat) (by omega) (by omega) ?_
          refine g_aload_n E dX0_moveGranted_67 rfl rfl ?_
          refine g_getR E inX0_moveGranted rfl flX0_moveGranted_50 dX0_moveGranted_68 (by decide) rfl ?_
          refine g_iload_n E dX0_moveGranted_71 rfl rfl ?_
          refine g_ald E dX0_moveGranted_72 rfl rfl rfl (by omega) ?_
          refine g_iadd E dX0_moveGranted_73 ?_
          refine g_ast E (A' := [_, _, _, _, _, _, _, _, _, _, _, _, _, _]) dX0_moveGranted_74 rfl rfl (i := (f12 k).toNat) (by omega) (by omega) rfl ?_
          refine g_aload_n E dX0_moveGranted_75 rfl rfl ?_
          refine g_getR E inX0_moveGranted rfl flX0_moveGranted_41 dX0_moveGranted_76 (by decide) rfl ?_
          refine g_iload_n E dX0_moveGranted_79 rfl rfl ?_
          refine g_dup2 E dX0_moveGranted_80 rfl rfl ?_
          refine g_ald E dX0_moveGranted_81 rfl rfl rfl (by omega) ?_
          refine g_aload_n E dX0_moveGranted_82 rfl rfl ?_
          refine g_getR E inX0_moveGranted rfl flX0_moveGranted_50 dX0_moveGranted_83 (by decide) rfl ?_
          refine g_iload_n E dX0_moveGranted_86 rfl rfl ?_
          refine g_ald E dX0_moveGranted_87 rfl rfl rfl (by omega) ?_
          refine g_iadd E dX0_moveGranted_88 ?_
          refine g_ast E (A' := [_, _, _, _, _, _, _, _, _, _, _, _, _, _]) dX0_moveGranted_89 rfl rfl rfl (by omega) rfl ?_
          refine g_iload_n E dX0_moveGranted_90 rfl rfl ?_
          refine g_aload_n E dX0_moveGranted_91 rfl rfl ?_
          refine g_getR E inX0_moveGranted rfl flX0_moveGranted_50 dX0_moveGranted_92 (by decide) rfl ?_
          refine g_iload_n E dX0_moveGranted_95 rfl rfl ?_
          refine g_ald E dX0_moveGranted_96 rfl rfl rfl (by omega) ?_
          refine g_iadd E dX0_moveGranted_97 ?_
          refine g_istore_n E (lv' := [_, _, _, _, _]) dX0_moveGranted_98 rfl (Nat.le_of_ble_eq_true rfl) rfl ?_
          refine g_iinc E (lv' := [_, _, _, _, _]) dX0_moveGranted_99 rfl rfl ?_
          refine g_goto E dX0_moveGranted_102 (tgt := 4) (by decide) ?_
          exact g_eq (ih _ _) (by simp only [pMove, pPass, if_pos (And.intro h1 h2)]) (by simp only [pMoved, if_pos (And.intro h1 h2)]; rfl) rfl
        · refine g_iload_n E dX0_moveGranted_4 rfl rfl ?_
          refine g_aload_n E dX0_moveGranted_5 rfl rfl ?_
          refine g_getI E inX0_moveGranted rfl flX0_moveGranted_78 dX0_moveGranted_6 (by decide) rfl rfl ?_
          refine g_icmp_ge_f E dX0_moveGranted_9 (tgt := 105) (by decide) (by omega) (by omega) ?_
          refine g_aload_n E dX0_moveGranted_12 rfl rfl ?_
          refine g_getR E inX0_moveGranted rfl flX0_moveGranted_44 dX0_moveGranted_13 (by decide) rfl ?_
          refine g_iload_n E dX0_moveGranted_16 rfl rfl ?_
          refine g_ald E dX0_moveGranted_17 rfl rfl rfl (by omega) ?_
          refine g_istore_n E (lv' := [_, _, _, _, _]) dX0_moveGranted_18 rfl (Nat.le_of_ble_eq_true rfl) rfl ?_
          refine g_aload_n E dX0_moveGranted_19 rfl rfl ?_
          refine g_getR E inX0_moveGranted rfl flX0_moveGranted_47 dX0_moveGranted_20 (by decide) rfl ?_
          refine g_iload_n E dX0_moveGranted_23 rfl rfl ?_
          refine g_ald E dX0_moveGranted_24 rfl rfl rfl (by omega) ?_
          refine g_istore E (lv' := [_, _, _, _, _]) dX0_moveGranted_25 (Nat.le_of_ble_eq_true rfl) rfl ?_
          refine g_aload_n E dX0_moveGranted_27 rfl rfl ?_
          refine g_iload_n E dX0_moveGranted_28 rfl rfl ?_
          refine g_callI0 E (cX_isPlace (rv := 1) (by omega) (Or.inl ⟨rfl, by omega, by omega⟩)) (cwV 1 hts gX0_moveGranted_X0_isPlace rfl rfl rfl hdX0_isPlace ⟨(Nat.le_of_ble_eq_true rfl), (Nat.le_of_ble_eq_true rfl)⟩) rfl rfl rfl (Nat.le_of_ble_eq_true rfl) gW_0 rfl dX0_moveGranted_29 ⟨Nat.zero_le _, Nat.zero_le _⟩ ?_
          refine g_if_eq_f E dX0_moveGranted_32 (tgt := 99) (by decide) (by omega) (by omega) ?_
          refine g_aload_n E dX0_moveGranted_35 rfl rfl ?_
          refine g_iload E dX0_moveGranted_36 rfl ?_
          refine g_callI0 E (cX_isPlace (rv := 0) (by omega) (Or.inr ⟨rfl, by omega⟩)) (cwV 1 hts gX0_moveGranted_X0_isPlace rfl rfl rfl hdX0_isPlace ⟨(Nat.le_of_ble_eq_true rfl), (Nat.le_of_ble_eq_true rfl)⟩) rfl rfl rfl (Nat.le_of_ble_eq_true rfl) gW_0 rfl dX0_moveGranted_38 ⟨Nat.zero_le _, Nat.zero_le _⟩ ?_
          refine g_if_eq_t E dX0_moveGranted_41 (tgt := 99) (by decide) (by omega) (by omega) ?_
          exact no (fun h => h2 h.2) _ _
      · refine g_iload_n E dX0_moveGranted_4 rfl rfl ?_
        refine g_aload_n E dX0_moveGranted_5 rfl rfl ?_
        refine g_getI E inX0_moveGranted rfl flX0_moveGranted_78 dX0_moveGranted_6 (by decide) rfl rfl ?_
        refine g_icmp_ge_f E dX0_moveGranted_9 (tgt := 105) (by decide) (by omega) (by omega) ?_
        refine g_aload_n E dX0_moveGranted_12 rfl rfl ?_
        refine g_getR E inX0_moveGranted rfl flX0_moveGranted_44 dX0_moveGranted_13 (by decide) rfl ?_
        refine g_iload_n E dX0_moveGranted_16 rfl rfl ?_
        refine g_ald E dX0_moveGranted_17 rfl rfl rfl (by omega) ?_
        refine g_istore_n E (lv' := [_, _, _, _, _]) dX0_moveGranted_18 rfl (Nat.le_of_ble_eq_true rfl) rfl ?_
        refine g_aload_n E dX0_moveGranted_19 rfl rfl ?_
        refine g_getR E inX0_moveGranted rfl flX0_moveGranted_47 dX0_moveGranted_20 (by decide) rfl ?_
        refine g_iload_n E dX0_moveGranted_23 rfl rfl ?_
        refine g_ald E dX0_moveGranted_24 rfl rfl rfl (by omega) ?_
        refine g_istore E (lv' := [_, _, _, _, _]) dX0_moveGranted_25 (Nat.le_of_ble_eq_true rfl) rfl ?_
        refine g_aload_n E dX0_moveGranted_27 rfl rfl ?_
        refine g_iload_n E dX0_moveGranted_28 rfl rfl ?_
        refine g_callI0 E (cX_isPlace (rv := 0) (by omega) (Or.inr ⟨rfl, by omega⟩)) (cwV 1 hts gX0_moveGranted_X0_isPlace rfl rfl rfl hdX0_isPlace ⟨(Nat.le_of_ble_eq_true rfl), (Nat.le_of_ble_eq_true rfl)⟩) rfl rfl rfl (Nat.le_of_ble_eq_true rfl) gW_0 rfl dX0_moveGranted_29 ⟨Nat.zero_le _, Nat.zero_le _⟩ ?_
        refine g_if_eq_t E dX0_moveGranted_32 (tgt := 99) (by decide) (by omega) (by omega) ?_
        exact no (fun h => h1 h.1) _ _
  refine g_iconst E dX0_moveGranted_0 ?_
  refine g_istore_n E (lv' := [_, _, _, _, _]) dX0_moveGranted_1 rfl (Nat.le_of_ble_eq_true rfl) rfl ?_
  refine g_iconst E dX0_moveGranted_2 ?_
  refine g_istore_n E (lv' := [_, _, _, _, _]) dX0_moveGranted_3 rfl (Nat.le_of_ble_eq_true rfl) rfl ?_
  exact key 0 (by omega) _ _
