set_option maxRecDepth 100000 in
theorem flX1_grant_13 : Cond.fieldLink RX1 13 (TX1 2).1 (TX1 2).2.1 (TX1 2).2.2.1 ∈ wsX1_grant := by decide +kernel
set_option maxRecDepth 100000 in
theorem flX1_grant_17 : Cond.fieldLink RX1 17 (TX1 3).1 (TX1 3).2.1 (TX1 3).2.2.1 ∈ wsX1_grant := by decide +kernel
set_option maxRecDepth 100000 in
theorem flX1_grant_32 : Cond.fieldLink RX1 32 (TX1 9).1 (TX1 9).2.1 (TX1 9).2.2.1 ∈ wsX1_grant := by decide +kernel
set_option maxRecDepth 100000 in
theorem flX1_grant_48 : Cond.fieldLink RX1 48 (TX1 16).1 (TX1 16).2.1 (TX1 16).2.2.1 ∈ wsX1_grant := by decide +kernel
set_option maxRecDepth 100000 in
theorem flX1_grant_51 : Cond.fieldLink RX1 51 (TX1 17).1 (TX1 17).2.1 (TX1 17).2.2.1 ∈ wsX1_grant := by decide +kernel
set_option maxRecDepth 100000 in
theorem flX1_grant_54 : Cond.fieldLink RX1 54 (TX1 18).1 (TX1 18).2.1 (TX1 18).2.2.1 ∈ wsX1_grant := by decide +kernel
set_option maxRecDepth 100000 in
theorem flX1_grant_64 : Cond.fieldLink RX1 64 (TX1 5).1 (TX1 5).2.1 (TX1 5).2.2.1 ∈ wsX1_grant := by decide +kernel
set_option maxRecDepth 100000 in
theorem flX1_wish_17 : Cond.fieldLink RX1 17 (TX1 3).1 (TX1 3).2.1 (TX1 3).2.2.1 ∈ wsX1_wish := by decide +kernel
set_option maxRecDepth 100000 in
theorem flX1_wish_20 : Cond.fieldLink RX1 20 (TX1 4).1 (TX1 4).2.1 (TX1 4).2.2.1 ∈ wsX1_wish := by decide +kernel
set_option maxRecDepth 100000 in
theorem flX1_wish_29 : Cond.fieldLink RX1 29 (TX1 8).1 (TX1 8).2.1 (TX1 8).2.2.1 ∈ wsX1_wish := by decide +kernel
set_option maxRecDepth 100000 in
theorem flX1_wish_48 : Cond.fieldLink RX1 48 (TX1 16).1 (TX1 16).2.1 (TX1 16).2.2.1 ∈ wsX1_wish := by decide +kernel
set_option maxRecDepth 100000 in
theorem flX1_wish_51 : Cond.fieldLink RX1 51 (TX1 17).1 (TX1 17).2.1 (TX1 17).2.2.1 ∈ wsX1_wish := by decide +kernel
set_option maxRecDepth 100000 in
theorem flX1_wish_54 : Cond.fieldLink RX1 54 (TX1 18).1 (TX1 18).2.1 (TX1 18).2.2.1 ∈ wsX1_wish := by decide +kernel
set_option maxRecDepth 100000 in
theorem flX1_wish_64 : Cond.fieldLink RX1 64 (TX1 5).1 (TX1 5).2.1 (TX1 5).2.2.1 ∈ wsX1_wish := by decide +kernel
set_option maxRecDepth 100000 in
theorem flX1_wish_7 : Cond.fieldLink RX1 7 (TX1 1).1 (TX1 1).2.1 (TX1 1).2.2.1 ∈ wsX1_wish := by decide +kernel
set_option maxRecDepth 100000 in
theorem flX1_wish_92 : Cond.fieldLink RX1 92 (TX1 12).1 (TX1 12).2.1 (TX1 12).2.2.1 ∈ wsX1_wish := by decide +kernel
set_option maxRecDepth 100000 in
theorem hdX1_doorOf : yX1_doorOf.cls = RX1 ∧ yX1_doorOf.cls ≠ "java/lang/invoke/MethodHandle" ∧ yX1_doorOf.cls ≠ "java/lang/invoke/VarHandle" ∧ (parseMethodDescriptor yX1_doorOf.desc).map (fun d => d.parameters.length) = some 1 := by decide +kernel
set_option maxRecDepth 100000 in
theorem hdX1_measure : yX1_measure.cls = RX1 ∧ yX1_measure.cls ≠ "java/lang/invoke/MethodHandle" ∧ yX1_measure.cls ≠ "java/lang/invoke/VarHandle" ∧ (parseMethodDescriptor yX1_measure.desc).map (fun d => d.parameters.length) = some 0 := by decide +kernel
set_option maxRecDepth 100000 in
theorem inX1_grant : ∀ w ∈ u_ws RX1 TX1 19, w ∈ wsX1_grant := by decide +kernel
set_option maxRecDepth 100000 in
theorem inX1_wish : ∀ w ∈ u_ws RX1 TX1 19, w ∈ wsX1_wish := by decide +kernel
set_option maxHeartbeats 4000000 in
set_option maxRecDepth 100000 in
theorem cM_wish {l : Launch} {D : va_G} {cI cZ : ClassId} {q : Nat} {r : Nat → Nat} {P Dn : Nat} {th t lo wa : Int} {g0 g1 g2 g3 g4 g5 g6 g7 g8 g9 g10 g11 g12 : Nat → Int} (hP : 1 ≤ P ∧ P ≤ 11) (hDn : Dn ≤ 16) (ht : -2147483648 ≤ t ∧ t < 2147483647) (hs2 : ∀ j : Nat, -2147483648 ≤ g2 j ∧ g2 j < 2147483648) (hs3 : ∀ j : Nat, -2147483648 ≤ g3 j ∧ g3 j < 2147483648) (hs4 : ∀ j : Nat, -2147483648 ≤ g4 j ∧ g4 j < 2147483648) (hs5 : ∀ j : Nat, -2147483648 ≤ g5 j ∧ g5 j < 2147483648) (hs7 : ∀ j : Nat, -2147483648 ≤ g7 j ∧ g7 j < 2147483648) (hs9 : ∀ j : Nat, -2147483648 ≤ g9 j ∧ g9 j < 2147483648) (he3 : ∀ j : Nat, j < Dn → 0 ≤ g3 j ∧ g3 j < P) (he4 : ∀ j : Nat, j < Dn → 0 ≤ g4 j ∧ g4 j < P) (hpe : ∀ j : Nat, 1 ≤ j → j < P → 0 ≤ g1 j ∧ g1 j ≤ g0 j ∧ g0 j ≤ 30) : gMV l yX1_wish wsX1_wish 2 D (gTy cI cZ) (gM cI cZ q r [th, (P : Int), (Dn : Int), t, lo, wa] [g0, g1, g2, g3, g4, g5, g6, g7, g8, g9, g10, g11, g12]) [.ref q] (gM cI cZ q r [th, (P : Int), (Dn : Int), t, lo, wa] [g0, g1, g2, g3, g4, g5, g6, g7, g8, (mDist g3 g4 g7 P Dn g9), (mW (mDist g3 g4 g7 P Dn g9) g3 g4 g7 g1 g2 g5 t Dn (pZ g10 Dn, pM1 g12 Dn) P).1, (pZ g11 Dn), (mW (mDist g3 g4 g7 P Dn g9) g3 g4 g7 g1 g2 g5 t Dn (pZ g10 Dn, pM1 g12 Dn) P).2]) := by
  refine g_ofV (by decide +kernel) rfl rfl (Nat.le_of_ble_eq_true rfl) (g_cat1 rfl) ?_
  intro p e s m args below meth c Q A0 E hret
  have hts := E.1.2.2.2.2
  show gJ p l e (gR 2) s m args below meth c 0 0 Q A0 D (gM cI cZ q r [th, (P : Int), (Dn : Int), t, lo, wa] [g0, g1, g2, g3, g4, g5, g6, g7, g8, g9, g10, g11, g12]) [some (.ref q), none, none] 0 []
  have hBf : gB (mDist g3 g4 g7 P Dn g9) := mDist_B hs9 hP.2
  have key2 : ∀ i : Nat, i ≤ P → (1 ≤ i → ∀ a : Option Value, gJ p l e (gR 2) s m args below meth c 0 0 Q A0 D (gM cI cZ q r [th, (P : Int), (Dn : Int), t, lo, wa] [g0, g1, g2, g3, g4, g5, g6, g7, g8, (mDist g3 g4 g7 P Dn g9), (mW (mDist g3 g4 g7 P Dn g9) g3 g4 g7 g1 g2 g5 t Dn (pZ g10 Dn, pM1 g12 Dn) i).1, (pZ g11 Dn), (mW (mDist g3 g4 g7 P Dn g9) g3 g4 g7 g1 g2 g5 t Dn (pZ g10 Dn, pM1 g12 Dn) i).2]) [some (.ref q), some (.int (iI i)), a] 43 []) := by
    refine g_loop _ P ?_ ?_
    · intro _ a
      refine g_iload_n E dX1_wish_43 rfl rfl ?_
      refine g_aload_n E dX1_wish_44 rfl rfl ?_
      refine g_getI E inX1_wish rfl flX1_wish_7 dX1_wish_45 (by decide) rfl rfl ?_
      refine g_icmp_ge_t E dX1_wish_48 (tgt := 129) (by decide) (by omega) (by omega) ?_
      exact hret _ _ dX1_wish_129
    · intro i hi ih h1 a
      have h2 := hs2 i
      have hp1 := hpe i h1 hi
      have hd := mDo_b (far := (mDist g3 g4 g7 P Dn g9)) (one := g3) (oth := g4) (op := g7) (i := i) Dn
      have no : ¬ ((mDo (mDist g3 g4 g7 P Dn g9) g3 g4 g7 i Dn) ≠ -1 ∧ g2 i ≤ t) → ∀ a : Option Value, gJ p l e (gR 2) s m args below meth c 0 0 Q A0 D (gM cI cZ q r [th, (P : Int), (Dn : Int), t, lo, wa] [g0, g1, g2, g3, g4, g5, g6, g7, g8, (mDist g3 g4 g7 P Dn g9), (mW (mDist g3 g4 g7 P Dn g9) g3 g4 g7 g1 g2 g5 t Dn (pZ g10 Dn, pM1 g12 Dn) i).1, (pZ g11 Dn), (mW (mDist g3 g4 g7 P Dn g9) g3 g4 g7 g1 g2 g5 t Dn (pZ g10 Dn, pM1 g12 Dn) i).2]) [some (.ref q), some (.int (iI i)), a] 123 [] := by
        intro hn a
        have e9 : mW1 (mDist g3 g4 g7 P Dn g9) g3 g4 g7 g1 g2 g5 t Dn i (mW (mDist g3 g4 g7 P Dn g9) g3 g4 g7 g1 g2 g5 t Dn (pZ g10 Dn, pM1 g12 Dn) i) = (mW (mDist g3 g4 g7 P Dn g9) g3 g4 g7 g1 g2 g5 t Dn (pZ g10 Dn, pM1 g12 Dn) i) := if_neg hn
        refine g_iinc E (lv' := [_, _, _]) dX1_wish_123 rfl rfl ?_
        refine g_goto E dX1_wish_126 (tgt := 43) (by decide) ?_
        exact g_eq (ih (by omega) a) (by rw [mW_s h1, e9]) rfl rfl
      refine g_iload_n E dX1_wish_43 rfl rfl ?_
      refine g_aload_n E dX1_wish_44 rfl rfl ?_
      refine g_getI E inX1_wish rfl flX1_wish_7 dX1_wish_45 (by decide) rfl rfl ?_
      refine g_icmp_ge_f E dX1_wish_48 (tgt := 129) (by decide) (by omega) (by omega) ?_
      refine g_aload_n E dX1_wish_51 rfl rfl ?_
      refine g_iload_n E dX1_wish_52 rfl rfl ?_
      refine g_callI0 E (cM_doorOf (by omega) hP hDn hs3 hs4 hs7 hBf he3 he4) (cwV 1 hts gX1_wish_X1_doorOf rfl rfl rfl hdX1_doorOf ⟨(Nat.le_of_ble_eq_true rfl), (Nat.le_of_ble_eq_true rfl)⟩) rfl rfl rfl (Nat.le_of_ble_eq_true rfl) gW_0 rfl dX1_wish_53 ⟨Nat.zero_le _, Nat.zero_le _⟩ ?_
      refine g_istore_n E (lv' := [_, _, _]) dX1_wish_56 rfl (Nat.le_of_ble_eq_true rfl) rfl ?_
      refine g_iload_n E dX1_wish_57 rfl rfl ?_
      refine g_iconst E dX1_wish_58 ?_
      refine g_icmp_eq E dX1_wish_59 (tgt := 123) (by decide) (by omega) (fun c1 => ?_) (fun c1 => ?_)
      · exact no (fun h => h.1 c1) _
      · refine g_aload_n E dX1_wish_62 rfl rfl ?_
        refine g_getR E inX1_wish rfl flX1_wish_20 dX1_wish_63 (by decide) rfl ?_
        refine g_iload_n E dX1_wish_66 rfl rfl ?_
        refine g_ald E dX1_wish_67 rfl rfl rfl (by omega) ?_
        refine g_aload_n E dX1_wish_68 rfl rfl ?_
        refine g_getI E inX1_wish rfl flX1_wish_92 dX1_wish_69 (by decide) rfl rfl ?_
        refine g_icmp_gt E dX1_wish_72 (tgt := 123) (by decide) (by omega) (fun c2 => ?_) (fun c2 => ?_)
        · exact no (by omega) _
        · obtain ⟨n, hn⟩ : ∃ n : Nat, (mDo (mDist g3 g4 g7 P Dn g9) g3 g4 g7 i Dn) = (n : Int) := ⟨(mDo (mDist g3 g4 g7 P Dn g9) g3 g4 g7 i Dn).toNat, by omega⟩
          have e9 : mW1 (mDist g3 g4 g7 P Dn g9) g3 g4 g7 g1 g2 g5 t Dn i (mW (mDist g3 g4 g7 P Dn g9) g3 g4 g7 g1 g2 g5 t Dn (pZ g10 Dn, pM1 g12 Dn) i) = (gu (mW (mDist g3 g4 g7 P Dn g9) g3 g4 g7 g1 g2 g5 t Dn (pZ g10 Dn, pM1 g12 Dn) i).1 n (mMin (g1 i) (g5 n)), gu (mW (mDist g3 g4 g7 P Dn g9) g3 g4 g7 g1 g2 g5 t Dn (pZ g10 Dn, pM1 g12 Dn) i).2 n (mBy g3 g4 n (i : Int))) := by
            unfold mW1
            rw [if_pos ⟨c1, by omega⟩, hn, Int.toNat_natCast]
          rw [hn] at hd ⊢
          have h5 := hs5 n
          have fin : ∀ v : Int, v = mMin (g1 i) (g5 n) → gJ p l e (gR 2) s m args below meth c 0 0 Q A0 D (gM cI cZ q r [th, (P : Int), (Dn : Int), t, lo, wa] [g0, g1, g2, g3, g4, g5, g6, g7, g8, (mDist g3 g4 g7 P Dn g9), (mW (mDist g3 g4 g7 P Dn g9) g3 g4 g7 g1 g2 g5 t Dn (pZ g10 Dn, pM1 g12 Dn) i).1, (pZ g11 Dn), (mW (mDist g3 g4 g7 P Dn g9) g3 g4 g7 g1 g2 g5 t Dn (pZ g10 Dn, pM1 g12 Dn) i).2]) [some (.ref q), some (.int (iI i)), some (.int (iI (n : Int)))] 110 [.int (iI v), .int (iI (n : Int)), .ref (r 10)] := by
            intro v hv
            subst hv
            refine g_ast E (A' := [_, _, _, _, _, _, _, _, _, _, _, _, _]) dX1_wish_110 rfl rfl rfl (by omega) rfl ?_
            refine g_aload_n E dX1_wish_111 rfl rfl ?_
            refine g_getR E inX1_wish rfl flX1_wish_54 dX1_wish_112 (by decide) rfl ?_
            refine g_iload_n E dX1_wish_115 rfl rfl ?_
            refine g_aload_n E dX1_wish_116 rfl rfl ?_
            refine g_iload_n E dX1_wish_117 rfl rfl ?_
            refine g_iload_n E dX1_wish_118 rfl rfl ?_
            refine g_callI0 E (cM_beyond (by omega) (by omega) hs3 hs4) (cwV 2 hts gX1_wish_X1_beyond rfl rfl rfl hdX1_beyond ⟨(Nat.le_of_ble_eq_true rfl), (Nat.le_of_ble_eq_true rfl)⟩) rfl rfl rfl (Nat.le_of_ble_eq_true rfl) gW_0 rfl dX1_wish_119 ⟨Nat.zero_le _, Nat.zero_le _⟩ ?_
            refine g_ast E (A' := [_, _, _, _, _, _, _, _, _, _, _, _, _]) dX1_wish_122 rfl rfl rfl (by omega) rfl ?_
            refine g_iinc E (lv' := [_, _, _]) dX1_wish_123 rfl rfl ?_
            refine g_goto E dX1_wish_126 (tgt := 43) (by decide) ?_
            exact g_eq (ih (by omega) _) (by rw [mW_s h1, e9]) rfl rfl
          have c3 := mMin_c (g1 i) (g5 n)
          refine g_aload_n E dX1_wish_75 rfl rfl ?_
          refine g_getR E inX1_wish rfl flX1_wish_48 dX1_wish_76 (by decide) rfl ?_
          refine g_iload_n E dX1_wish_79 rfl rfl ?_
          refine g_aload_n E dX1_wish_80 rfl rfl ?_
          refine g_getR E inX1_wish rfl flX1_wish_17 dX1_wish_81 (by decide) rfl ?_
          refine g_iload_n E dX1_wish_84 rfl rfl ?_
          refine g_ald E dX1_wish_85 rfl rfl rfl (by omega) ?_
          refine g_aload_n E dX1_wish_86 rfl rfl ?_
          refine g_getR E inX1_wish rfl flX1_wish_29 dX1_wish_87 (by decide) rfl ?_
          refine g_iload_n E dX1_wish_90 rfl rfl ?_
          refine g_ald E dX1_wish_91 rfl rfl rfl (by omega) ?_
          refine g_icmp_ge E dX1_wish_92 (tgt := 104) (by decide) (by omega) (fun c4 => ?_) (fun c4 => ?_)
          · refine g_aload_n E dX1_wish_104 rfl rfl ?_
            refine g_getR E inX1_wish rfl flX1_wish_29 dX1_wish_105 (by decide) rfl ?_
            refine g_iload_n E dX1_wish_108 rfl rfl ?_
            refine g_ald E dX1_wish_109 rfl rfl rfl (by omega) ?_
            exact fin _ (by omega)
          · refine g_aload_n E dX1_wish_95 rfl rfl ?_
            refine g_getR E inX1_wish rfl flX1_wish_17 dX1_wish_96 (by decide) rfl ?_
            refine g_iload_n E dX1_wish_99 rfl rfl ?_
            refine g_ald E dX1_wish_100 rfl rfl rfl (by omega) ?_
            refine g_goto E dX1_wish_101 (tgt := 110) (by decide) ?_
            exact fin _ (by omega)
  have key1 : ∀ k : Nat, k ≤ Dn → gJ p l e (gR 2) s m args below meth c 0 0 Q A0 D (gM cI cZ q r [th, (P : Int), (Dn : Int), t, lo, wa] [g0, g1, g2, g3, g4, g5, g6, g7, g8, (mDist g3 g4 g7 P Dn g9), (pZ g10 k), (pZ g11 k), (pM1 g12 k)]) [some (.ref q), some (.int (iI k)), none] 6 [] := by
    refine g_loop _ Dn ?_ ?_
    · refine g_iload_n E dX1_wish_6 rfl rfl ?_
      refine g_aload_n E dX1_wish_7 rfl rfl ?_
      refine g_getI E inX1_wish rfl flX1_wish_64 dX1_wish_8 (by decide) rfl rfl ?_
      refine g_icmp_ge_t E dX1_wish_11 (tgt := 41) (by decide) (by omega) (by omega) ?_
      refine g_iconst E dX1_wish_41 ?_
      refine g_istore_n E (lv' := [_, _, _]) dX1_wish_42 rfl (Nat.le_of_ble_eq_true rfl) rfl ?_
      exact key2 1 (by omega) (by omega) _
    · intro k hk ih
      refine g_iload_n E dX1_wish_6 rfl rfl ?_
      refine g_aload_n E dX1_wish_7 rfl rfl ?_
      refine g_getI E inX1_wish rfl flX1_wish_64 dX1_wish_8 (by decide) rfl rfl ?_
      refine g_icmp_ge_f E dX1_wish_11 (tgt := 41) (by decide) (by omega) (by omega) ?_
      refine g_aload_n E dX1_wish_14 rfl rfl ?_
      refine g_getR E inX1_wish rfl flX1_wish_48 dX1_wish_15 (by decide) rfl ?_
      refine g_iload_n E dX1_wish_18 rfl rfl ?_
      refine g_iconst E dX1_wish_19 ?_
      refine g_ast E (A' := [_, _, _, _, _, _, _, _, _, _, _, _, _]) dX1_wish_20 rfl rfl rfl (by omega) rfl ?_
      refine g_aload_n E dX1_wish_21 rfl rfl ?_
      refine g_getR E inX1_wish rfl flX1_wish_51 dX1_wish_22 (by decide) rfl ?_
      refine g_iload_n E dX1_wish_25 rfl rfl ?_
      refine g_iconst E dX1_wish_26 ?_
      refine g_ast E (A' := [_, _, _, _, _, _, _, _, _, _, _, _, _]) dX1_wish_27 rfl rfl rfl (by omega) rfl ?_
      refine g_aload_n E dX1_wish_28 rfl rfl ?_
      refine g_getR E inX1_wish rfl flX1_wish_54 dX1_wish_29 (by decide) rfl ?_
      refine g_iload_n E dX1_wish_32 rfl rfl ?_
      refine g_iconst E dX1_wish_33 ?_
      refine g_ast E (A' := [_, _, _, _, _, _, _, _, _, _, _, _, _]) dX1_wish_34 rfl rfl rfl (by omega) rfl ?_
      refine g_iinc E (lv' := [_, _, _]) dX1_wish_35 rfl rfl ?_
      refine g_goto E dX1_wish_38 (tgt := 6) (by decide) ?_
      exact ih
  refine g_aload_n E dX1_wish_0 rfl rfl ?_
  refine g_callV0 E (cM_measure hP hDn hs7 hs9 he3 he4) (cwV 0 hts gX1_wish_X1_measure rfl rfl rfl hdX1_measure ⟨(Nat.le_of_ble_eq_true rfl), (Nat.le_of_ble_eq_true rfl)⟩) rfl rfl rfl (Nat.le_of_ble_eq_true rfl) gW_0 rfl dX1_wish_1 ⟨Nat.zero_le _, Nat.zero_le _⟩ ?_
  refine g_iconst E dX1_wish_4 ?_
  refine g_istore_n E (lv' := [_, _, _]) dX1_wish_5 rfl (Nat.le_of_ble_eq_true rfl) rfl ?_
  exact key1 0 (by omega)
set_option maxHeartbeats 4000000 in
set_option maxRecDepth 100000 in
theorem cM_grant {l : Launch} {D : va_G} {cI cZ : ClassId} {q : Nat} {r : Nat → Nat} {P Dn : Nat} {th t lo wa : Int} {g0 g1 g2 g3 g4 g5 g6 g7 g8 g9 g10 g11 g12 : Nat → Int} {pl : Nat} (hP : 1 ≤ P ∧ P ≤ 11) (hDn : Dn ≤ 16) (hpl : pl < P) (hs12 : ∀ j : Nat, -2147483648 ≤ g12 j ∧ g12 j < 2147483648) (hg : gGI g10 g6 g11 (mRoom g0 g1 pl) Dn) : gMV l yX1_grant wsX1_grant 0 D (gTy cI cZ) (gM cI cZ q r [th, (P : Int), (Dn : Int), t, lo, wa] [g0, g1, g2, g3, g4, g5, g6, g7, g8, g9, g10, g11, g12]) [.ref q, .int (iI (pl : Int))] (gM cI cZ q r [th, (P : Int), (Dn : Int), t, lo, wa] [g0, g1, g2, g3, g4, g5, g6, g7, g8, g9, g10, (pR g10 g6 g12 (pl : Int) Dn g11 (mRoom g0 g1 pl) 9).1, g12]) := by
  refine g_ofV (by decide +kernel) rfl rfl (Nat.le_of_ble_eq_true rfl) (g_cat1 rfl) ?_
  intro p e s m args below meth c Q A0 E hret
  have hts := E.1.2.2.2.2
  show gJ p l e (gR 0) s m args below meth c 0 0 Q A0 D (gM cI cZ q r [th, (P : Int), (Dn : Int), t, lo, wa] [g0, g1, g2, g3, g4, g5, g6, g7, g8, g9, g10, g11, g12]) [some (.ref q), some (.int (iI (pl : Int))), none, none, none, none, none] 0 []
  obtain ⟨N, hN, hlt, hfix, hst⟩ := pR_first (tg := g12) (p := (pl : Int)) hg
  have key : ∀ n : Nat, n ≤ N + 1 → ∀ a b c9 : Option Value, gJ p l e (gR 0) s m args below meth c 0 0 Q A0 D (gM cI cZ q r [th, (P : Int), (Dn : Int), t, lo, wa] [g0, g1, g2, g3, g4, g5, g6, g7, g8, g9, g10, (pR g10 g6 g12 (pl : Int) Dn g11 (mRoom g0 g1 pl) n).1, g12]) [some (.ref q), some (.int (iI pl)), some (.int (iI (pR g10 g6 g12 (pl : Int) Dn g11 (mRoom g0 g1 pl) n).2)), some (.int (iI (if n = N + 1 then 0 else 1))), a, b, c9] 26 [] := by
    refine g_loop _ (N + 1) ?_ ?_
    · intro a b c9
      rw [← hfix] at hret
      refine g_iload_n E dX1_grant_26 rfl rfl ?_
      refine g_if_eq_t E dX1_grant_27 (tgt := 157) (by decide) (by rw [if_pos rfl]; omega) (if_pos rfl) ?_
      exact hret _ _ dX1_grant_157
    · intro n hn ih a b c9
      have inv := pR_inv (tg := g12) (p := (pl : Int)) hg n
      have hmono : (pR g10 g6 g12 (pl : Int) Dn g11 (mRoom g0 g1 pl) (n + 1)).2 ≤ (pR g10 g6 g12 (pl : Int) Dn g11 (mRoom g0 g1 pl) n).2 := (pG_inv (tg := g12) (p := (pl : Int)) inv Dn (Nat.le_refl _)).2
      have key2 : ∀ k : Nat, k ≤ Dn → ∀ b c9 : Option Value, gJ p l e (gR 0) s m args below meth c 0 0 Q A0 D (gM cI cZ q r [th, (P : Int), (Dn : Int), t, lo, wa] [g0, g1, g2, g3, g4, g5, g6, g7, g8, g9, g10, (pG g10 g6 g12 (pl : Int) (pR g10 g6 g12 (pl : Int) Dn g11 (mRoom g0 g1 pl) n).1 (pR g10 g6 g12 (pl : Int) Dn g11 (mRoom g0 g1 pl) n).2 k).1, g12]) [some (.ref q), some (.int (iI pl)), some (.int (iI (pG g10 g6 g12 (pl : Int) (pR g10 g6 g12 (pl : Int) Dn g11 (mRoom g0 g1 pl) n).1 (pR g10 g6 g12 (pl : Int) Dn g11 (mRoom g0 g1 pl) n).2 k).2)), some (.int (iI (if (pG g10 g6 g12 (pl : Int) (pR g10 g6 g12 (pl : Int) Dn g11 (mRoom g0 g1 pl) n).1 (pR g10 g6 g12 (pl : Int) Dn g11 (mRoom g0 g1 pl) n).2 k).2 < (pR g10 g6 g12 (pl : Int) Dn g11 (mRoom g0 g1 pl) n).2 then 1 else 0))), some (.int (iI k)), b, c9] 35 [] := by
        refine g_loop _ Dn ?_ ?_
        · intro b c9
          refine g_iload E dX1_grant_35 rfl ?_
          refine g_aload_n E dX1_grant_37 rfl rfl ?_
          refine g_getI E inX1_grant rfl flX1_grant_64 dX1_grant_38 (by decide) rfl rfl ?_
          refine g_icmp_ge_t E dX1_grant_41 (tgt := 154) (by decide) (by omega) (by omega) ?_
          refine g_goto E dX1_grant_154 (tgt := 26) (by decide) ?_
          have e9 : (if (pR g10 g6 g12 (pl : Int) Dn g11 (mRoom g0 g1 pl) (n + 1)).2 < (pR g10 g6 g12 (pl : Int) Dn g11 (mRoom g0 g1 pl) n).2 then (1 : Int) else 0) = (if n + 1 = N + 1 then 0 else 1) := by
            rcases Nat.lt_or_ge n N with h9 | h9
            · rw [if_pos (hlt n h9), if_neg (by omega)]
            · have e0 : n = N := by omega
              subst e0
              rw [if_neg (by omega), if_pos rfl]
          exact g_eq (ih (some (.int (iI (Dn : Int)))) b c9) rfl (by show [_, _, _, some (Value.int (iI (if (pR g10 g6 g12 (pl : Int) Dn g11 (mRoom g0 g1 pl) (n + 1)).2 < (pR g10 g6 g12 (pl : Int) Dn g11 (mRoom g0 g1 pl) n).2 then (1 : Int) else 0))), _, _, _] = _; rw [e9]; rfl) rfl
        · intro k hk ih2 b c9
          have h12 := hs12 k
          obtain ⟨⟨i1, i2, i3⟩, i4⟩ := pG_inv (tg := g12) (p := (pl : Int)) inv k (by omega)
          obtain ⟨⟨j1, j2⟩, j3, j4, j5⟩ := i1 k hk
          have i5 := inv.2.2
          have f114 : ∀ (b c9 : Option Value) (v : Int), 0 ≤ v ∧ v ≤ 9 → (pG g10 g6 g12 (pl : Int) (pR g10 g6 g12 (pl : Int) Dn g11 (mRoom g0 g1 pl) n).1 (pR g10 g6 g12 (pl : Int) Dn g11 (mRoom g0 g1 pl) n).2 (k + 1)).1 = gu (pG g10 g6 g12 (pl : Int) (pR g10 g6 g12 (pl : Int) Dn g11 (mRoom g0 g1 pl) n).1 (pR g10 g6 g12 (pl : Int) Dn g11 (mRoom g0 g1 pl) n).2 k).1 k ((pG g10 g6 g12 (pl : Int) (pR g10 g6 g12 (pl : Int) Dn g11 (mRoom g0 g1 pl) n).1 (pR g10 g6 g12 (pl : Int) Dn g11 (mRoom g0 g1 pl) n).2 k).1 k + v) → (pG g10 g6 g12 (pl : Int) (pR g10 g6 g12 (pl : Int) Dn g11 (mRoom g0 g1 pl) n).1 (pR g10 g6 g12 (pl : Int) Dn g11 (mRoom g0 g1 pl) n).2 (k + 1)).2 = (pG g10 g6 g12 (pl : Int) (pR g10 g6 g12 (pl : Int) Dn g11 (mRoom g0 g1 pl) n).1 (pR g10 g6 g12 (pl : Int) Dn g11 (mRoom g0 g1 pl) n).2 k).2 - v → gJ p l e (gR 0) s m args below meth c 0 0 Q A0 D (gM cI cZ q r [th, (P : Int), (Dn : Int), t, lo, wa] [g0, g1, g2, g3, g4, g5, g6, g7, g8, g9, g10, (pG g10 g6 g12 (pl : Int) (pR g10 g6 g12 (pl : Int) Dn g11 (mRoom g0 g1 pl) n).1 (pR g10 g6 g12 (pl : Int) Dn g11 (mRoom g0 g1 pl) n).2 k).1, g12]) [some (.ref q), some (.int (iI pl)), some (.int (iI (pG g10 g6 g12 (pl : Int) (pR g10 g6 g12 (pl : Int) Dn g11 (mRoom g0 g1 pl) n).1 (pR g10 g6 g12 (pl : Int) Dn g11 (mRoom g0 g1 pl) n).2 k).2)), some (.int (iI (if (pG g10 g6 g12 (pl : Int) (pR g10 g6 g12 (pl : Int) Dn g11 (mRoom g0 g1 pl) n).1 (pR g10 g6 g12 (pl : Int) Dn g11 (mRoom g0 g1 pl) n).2 k).2 < (pR g10 g6 g12 (pl : Int) Dn g11 (mRoom g0 g1 pl) n).2 then 1 else 0))), some (.int (iI k)), b, c9] 114 [.int (iI v)] := by
            intro b c9 v hv e1 e2
            by_cases hon : (pG g10 g6 g12 (pl : Int) (pR g10 g6 g12 (pl : Int) Dn g11 (mRoom g0 g1 pl) n).1 (pR g10 g6 g12 (pl : Int) Dn g11 (mRoom g0 g1 pl) n).2 k).2 < (pR g10 g6 g12 (pl : Int) Dn g11 (mRoom g0 g1 pl) n).2
            · rw [if_pos hon]
              have e3 : (if (pG g10 g6 g12 (pl : Int) (pR g10 g6 g12 (pl : Int) Dn g11 (mRoom g0 g1 pl) n).1 (pR g10 g6 g12 (pl : Int) Dn g11 (mRoom g0 g1 pl) n).2 (k + 1)).2 < (pR g10 g6 g12 (pl : Int) Dn g11 (mRoom g0 g1 pl) n).2 then (1 : Int) else 0) = 1 := if_pos (by omega)
              refine g_istore E (lv' := [_, _, _, _, _, _, _]) dX1_grant_114 (Nat.le_of_ble_eq_true rfl) rfl ?_
              refine g_aload_n E dX1_grant_116 rfl rfl ?_
              refine g_getR E inX1_grant rfl flX1_grant_51 dX1_grant_117 (by decide) rfl ?_
              refine g_iload E dX1_grant_120 rfl ?_
              refine g_dup2 E dX1_grant_122 rfl rfl ?_
              refine g_ald E dX1_grant_123 rfl rfl rfl (by omega) ?_
              refine g_iload E dX1_grant_124 rfl ?_
              refine g_iadd E dX1_grant_126 ?_
              refine g_ast E (A' := [_, _, _, _, _, _, _, _, _, _, _, _, _]) dX1_grant_127 rfl rfl rfl (by omega) rfl ?_
              refine g_iload_n E dX1_grant_128 rfl rfl ?_
              refine g_iload E dX1_grant_129 rfl ?_
              refine g_isub E dX1_grant_131 ?_
              refine g_istore_n E (lv' := [_, _, _, _, _, _, _]) dX1_grant_132 rfl (Nat.le_of_ble_eq_true rfl) rfl ?_
              refine g_iload_n E dX1_grant_133 rfl rfl ?_
              refine g_if_ne_t E dX1_grant_134 (tgt := 142) (by decide) (by omega) (by omega) ?_
              refine g_iconst E dX1_grant_142 ?_
              refine g_goto E dX1_grant_143 (tgt := 147) (by decide) ?_
              refine g_istore_n E (lv' := [_, _, _, _, _, _, _]) dX1_grant_147 rfl (Nat.le_of_ble_eq_true rfl) rfl ?_
              refine g_iinc E (lv' := [_, _, _, _, _, _, _]) dX1_grant_148 rfl rfl ?_
              refine g_goto E dX1_grant_151 (tgt := 35) (by decide) ?_
              exact g_eq (ih2 b (some (.int (iI v)))) (by rw [e1]) (by rw [e3, e2]; rfl) rfl
            · rw [if_neg hon]
              refine g_istore E (lv' := [_, _, _, _, _, _, _]) dX1_grant_114 (Nat.le_of_ble_eq_true rfl) rfl ?_
              refine g_aload_n E dX1_grant_116 rfl rfl ?_
              refine g_getR E inX1_grant rfl flX1_grant_51 dX1_grant_117 (by decide) rfl ?_
              refine g_iload E dX1_grant_120 rfl ?_
              refine g_dup2 E dX1_grant_122 rfl rfl ?_
              refine g_ald E dX1_grant_123 rfl rfl rfl (by omega) ?_
              refine g_iload E dX1_grant_124 rfl ?_
              refine g_iadd E dX1_grant_126 ?_
              refine g_ast E (A' := [_, _, _, _, _, _, _, _, _, _, _, _, _]) dX1_grant_127 rfl rfl rfl (by omega) rfl ?_
              refine g_iload_n E dX1_grant_128 rfl rfl ?_
              refine g_iload E dX1_grant_129 rfl ?_
              refine g_isub E dX1_grant_131 ?_
              refine g_istore_n E (lv' := [_, _, _, _, _, _, _]) dX1_grant_132 rfl (Nat.le_of_ble_eq_true rfl) rfl ?_
              refine g_iload_n E dX1_grant_133 rfl rfl ?_
              refine g_if_ne_f E dX1_grant_134 (tgt := 142) (by decide) (by omega) (by omega) ?_
              refine g_iload E dX1_grant_137 rfl ?_
              refine g_if_le E dX1_grant_139 (tgt := 146) (by decide) (by omega) (fun c1 => ?_) (fun c1 => ?_)
              · have e3 : (if (pG g10 g6 g12 (pl : Int) (pR g10 g6 g12 (pl : Int) Dn g11 (mRoom g0 g1 pl) n).1 (pR g10 g6 g12 (pl : Int) Dn g11 (mRoom g0 g1 pl) n).2 (k + 1)).2 < (pR g10 g6 g12 (pl : Int) Dn g11 (mRoom g0 g1 pl) n).2 then (1 : Int) else 0) = 0 := if_neg (by omega)
                refine g_iconst E dX1_grant_146 ?_
                refine g_istore_n E (lv' := [_, _, _, _, _, _, _]) dX1_grant_147 rfl (Nat.le_of_ble_eq_true rfl) rfl ?_
                refine g_iinc E (lv' := [_, _, _, _, _, _, _]) dX1_grant_148 rfl rfl ?_
                refine g_goto E dX1_grant_151 (tgt := 35) (by decide) ?_
                exact g_eq (ih2 b (some (.int (iI v)))) (by rw [e1]) (by rw [e3, e2]; rfl) rfl
              · have e3 : (if (pG g10 g6 g12 (pl : Int) (pR g10 g6 g12 (pl : Int) Dn g11 (mRoom g0 g1 pl) n).1 (pR g10 g6 g12 (pl : Int) Dn g11 (mRoom g0 g1 pl) n).2 (k + 1)).2 < (pR g10 g6 g12 (pl : Int) Dn g11 (mRoom g0 g1 pl) n).2 then (1 : Int) else 0) = 1 := if_pos (by omega)
                refine g_iconst E dX1_grant_142 ?_
                refine g_goto E dX1_grant_143 (tgt := 147) (by decide) ?_
                refine g_istore_n E (lv' := [_, _, _, _, _, _, _]) dX1_grant_147 rfl (Nat.le_of_ble_eq_true rfl) rfl ?_
                refine g_iinc E (lv' := [_, _, _, _, _, _, _]) dX1_grant_148 rfl rfl ?_
                refine g_goto E dX1_grant_151 (tgt := 35) (by decide) ?_
                exact g_eq (ih2 b (some (.int (iI v)))) (by rw [e1]) (by rw [e3, e2]; rfl) rfl
          have f74 : ∀ (b c9 : Option Value) (o : Int), 0 ≤ o ∧ o ≤ 9 → (∀ v : Int, v = pMin (pMin (g6 k) o) (pG g10 g6 g12 (pl : Int) (pR g10 g6 g12 (pl : Int) Dn g11 (mRoom g0 g1 pl) n).1 (pR g10 g6 g12 (pl : Int) Dn g11 (mRoom g0 g1 pl) n).2 k).2 → (pG g10 g6 g12 (pl : Int) (pR g10 g6 g12 (pl : Int) Dn g11 (mRoom g0 g1 pl) n).1 (pR g10 g6 g12 (pl : Int) Dn g11 (mRoom g0 g1 pl) n).2 (k + 1)).1 = gu (pG g10 g6 g12 (pl : Int) (pR g10 g6 g12 (pl : Int) Dn g11 (mRoom g0 g1 pl) n).1 (pR g10 g6 g12 (pl : Int) Dn g11 (mRoom g0 g1 pl) n).2 k).1 k ((pG g10 g6 g12 (pl : Int) (pR g10 g6 g12 (pl : Int) Dn g11 (mRoom g0 g1 pl) n).1 (pR g10 g6 g12 (pl : Int) Dn g11 (mRoom g0 g1 pl) n).2 k).1 k + v) ∧ (pG g10 g6 g12 (pl : Int) (pR g10 g6 g12 (pl : Int) Dn g11 (mRoom g0 g1 pl) n).1 (pR g10 g6 g12 (pl : Int) Dn g11 (mRoom g0 g1 pl) n).2 (k + 1)).2 = (pG g10 g6 g12 (pl : Int) (pR g10 g6 g12 (pl : Int) Dn g11 (mRoom g0 g1 pl) n).1 (pR g10 g6 g12 (pl : Int) Dn g11 (mRoom g0 g1 pl) n).2 k).2 - v) → gJ p l e (gR 0) s m args below meth c 0 0 Q A0 D (gM cI cZ q r [th, (P : Int), (Dn : Int), t, lo, wa] [g0, g1, g2, g3, g4, g5, g6, g7, g8, g9, g10, (pG g10 g6 g12 (pl : Int) (pR g10 g6 g12 (pl : Int) Dn g11 (mRoom g0 g1 pl) n).1 (pR g10 g6 g12 (pl : Int) Dn g11 (mRoom g0 g1 pl) n).2 k).1, g12]) [some (.ref q), some (.int (iI pl)), some (.int (iI (pG g10 g6 g12 (pl : Int) (pR g10 g6 g12 (pl : Int) Dn g11 (mRoom g0 g1 pl) n).1 (pR g10 g6 g12 (pl : Int) Dn g11 (mRoom g0 g1 pl) n).2 k).2)), some (.int (iI (if (pG g10 g6 g12 (pl : Int) (pR g10 g6 g12 (pl : Int) Dn g11 (mRoom g0 g1 pl) n).1 (pR g10 g6 g12 (pl : Int) Dn g11 (mRoom g0 g1 pl) n).2 k).2 < (pR g10 g6 g12 (pl : Int) Dn g11 (mRoom g0 g1 pl) n).2 then 1 else 0))), some (.int (iI k)), b, c9] 74 [.int (iI o)] := by
            intro b c9 o ho hoo
            have c1 := pMin_c (g6 k) o
            have c2 := pMin_c (pMin (g6 k) o) (pG g10 g6 g12 (pl : Int) (pR g10 g6 g12 (pl : Int) Dn g11 (mRoom g0 g1 pl) n).1 (pR g10 g6 g12 (pl : Int) Dn g11 (mRoom g0 g1 pl) n).2 k).2
            obtain ⟨e1, e2⟩ := hoo _ rfl
            refine g_istore E (lv' := [_, _, _, _, _, _, _]) dX1_grant_74 (Nat.le_of_ble_eq_true rfl) rfl ?_
            refine g_iload E dX1_grant_76 rfl ?_
            refine g_aload_n E dX1_grant_78 rfl rfl ?_
            refine g_getR E inX1_grant rfl flX1_grant_32 dX1_grant_79 (by decide) rfl ?_
            refine g_iload E dX1_grant_82 rfl ?_
            refine g_ald E dX1_grant_84 rfl rfl rfl (by omega) ?_
            refine g_icmp_ge E dX1_grant_85 (tgt := 93) (by decide) (by omega) (fun c3 => ?_) (fun c3 => ?_)
            · refine g_aload_n E dX1_grant_93 rfl rfl ?_
              refine g_getR E inX1_grant rfl flX1_grant_32 dX1_grant_94 (by decide) rfl ?_
              refine g_iload E dX1_grant_97 rfl ?_
              refine g_ald E dX1_grant_99 rfl rfl rfl (by omega) ?_
              refine g_istore E (lv' := [_, _, _, _, _, _, _]) dX1_grant_100 (Nat.le_of_ble_eq_true rfl) rfl ?_
              refine g_iload E dX1_grant_102 rfl ?_
              refine g_iload_n E dX1_grant_104 rfl rfl ?_
              refine g_icmp_ge E dX1_grant_105 (tgt := 113) (by decide) (by omega) (fun c4 => ?_) (fun c4 => ?_)
              · refine g_iload_n E dX1_grant_113 rfl rfl ?_
                exact f114 _ _ _ (by omega) (by rw [e1]; congr 2; omega) (by omega)
              · refine g_iload E dX1_grant_108 rfl ?_
                refine g_goto E dX1_grant_110 (tgt := 114) (by decide) ?_
                exact f114 _ _ _ (by omega) (by rw [e1]; congr 2; omega) (by omega)
            · refine g_iload E dX1_grant_88 rfl ?_
              refine g_goto E dX1_grant_90 (tgt := 100) (by decide) ?_
              refine g_istore E (lv' := [_, _, _, _, _, _, _]) dX1_grant_100 (Nat.le_of_ble_eq_true rfl) rfl ?_
              refine g_iload E dX1_grant_102 rfl ?_
              refine g_iload_n E dX1_grant_104 rfl rfl ?_
              refine g_icmp_ge E dX1_grant_105 (tgt := 113) (by decide) (by omega) (fun c4 => ?_) (fun c4 => ?_)
              · refine g_iload_n E dX1_grant_113 rfl rfl ?_
                exact f114 _ _ _ (by omega) (by rw [e1]; congr 2; omega) (by omega)
              · refine g_iload E dX1_grant_108 rfl ?_
                refine g_goto E dX1_grant_110 (tgt := 114) (by decide) ?_
                exact f114 _ _ _ (by omega) (by rw [e1]; congr 2; omega) (by omega)
          refine g_iload E dX1_grant_35 rfl ?_
          refine g_aload_n E dX1_grant_37 rfl rfl ?_
          refine g_getI E inX1_grant rfl flX1_grant_64 dX1_grant_38 (by decide) rfl rfl ?_
          refine g_icmp_ge_f E dX1_grant_41 (tgt := 154) (by decide) (by omega) (by omega) ?_
          refine g_aload_n E dX1_grant_44 rfl rfl ?_
          refine g_getR E inX1_grant rfl flX1_grant_54 dX1_grant_45 (by decide) rfl ?_
          refine g_iload E dX1_grant_48 rfl ?_
          refine g_ald E dX1_grant_50 rfl rfl rfl (by omega) ?_
          refine g_iload_n E dX1_grant_51 rfl rfl ?_
          refine g_icmp_ne E dX1_grant_52 (tgt := 73) (by decide) (by omega) (fun c1 => ?_) (fun c1 => ?_)
          · have e9 : (pG g10 g6 g12 (pl : Int) (pR g10 g6 g12 (pl : Int) Dn g11 (mRoom g0 g1 pl) n).1 (pR g10 g6 g12 (pl : Int) Dn g11 (mRoom g0 g1 pl) n).2 (k + 1)) = (pG g10 g6 g12 (pl : Int) (pR g10 g6 g12 (pl : Int) Dn g11 (mRoom g0 g1 pl) n).1 (pR g10 g6 g12 (pl : Int) Dn g11 (mRoom g0 g1 pl) n).2 k) := if_neg c1
            refine g_iconst E dX1_grant_73 ?_
            refine f74 _ _ _ (by omega) (fun v hv => ?_)
            have c1 := pMin_c (g6 k) 0
            have c2 := pMin_c (pMin (g6 k) 0) (pG g10 g6 g12 (pl : Int) (pR g10 g6 g12 (pl : Int) Dn g11 (mRoom g0 g1 pl) n).1 (pR g10 g6 g12 (pl : Int) Dn g11 (mRoom g0 g1 pl) n).2 k).2
            rw [e9]
            exact ⟨(gu_self (by omega)).symm, by omega⟩
          · have e9 : (pG g10 g6 g12 (pl : Int) (pR g10 g6 g12 (pl : Int) Dn g11 (mRoom g0 g1 pl) n).1 (pR g10 g6 g12 (pl : Int) Dn g11 (mRoom g0 g1 pl) n).2 (k + 1)) = (gu (pG g10 g6 g12 (pl : Int) (pR g10 g6 g12 (pl : Int) Dn g11 (mRoom g0 g1 pl) n).1 (pR g10 g6 g12 (pl : Int) Dn g11 (mRoom g0 g1 pl) n).2 k).1 k ((pG g10 g6 g12 (pl : Int) (pR g10 g6 g12 (pl : Int) Dn g11 (mRoom g0 g1 pl) n).1 (pR g10 g6 g12 (pl : Int) Dn g11 (mRoom g0 g1 pl) n).2 k).1 k + pMin (pMin (g6 k) (g10 k - (pG g10 g6 g12 (pl : Int) (pR g10 g6 g12 (pl : Int) Dn g11 (mRoom g0 g1 pl) n).1 (pR g10 g6 g12 (pl : Int) Dn g11 (mRoom g0 g1 pl) n).2 k).1 k)) (pG g10 g6 g12 (pl : Int) (pR g10 g6 g12 (pl : Int) Dn g11 (mRoom g0 g1 pl) n).1 (pR g10 g6 g12 (pl : Int) Dn g11 (mRoom g0 g1 pl) n).2 k).2), (pG g10 g6 g12 (pl : Int) (pR g10 g6 g12 (pl : Int) Dn g11 (mRoom g0 g1 pl) n).1 (pR g10 g6 g12 (pl : Int) Dn g11 (mRoom g0 g1 pl) n).2 k).2 - pMin (pMin (g6 k) (g10 k - (pG g10 g6 g12 (pl : Int) (pR g10 g6 g12 (pl : Int) Dn g11 (mRoom g0 g1 pl) n).1 (pR g10 g6 g12 (pl : Int) Dn g11 (mRoom g0 g1 pl) n).2 k).1 k)) (pG g10 g6 g12 (pl : Int) (pR g10 g6 g12 (pl : Int) Dn g11 (mRoom g0 g1 pl) n).1 (pR g10 g6 g12 (pl : Int) Dn g11 (mRoom g0 g1 pl) n).2 k).2) := if_pos (by omega)
            refine g_aload_n E dX1_grant_55 rfl rfl ?_
            refine g_getR E inX1_grant rfl flX1_grant_48 dX1_grant_56 (by decide) rfl ?_
            refine g_iload E dX1_grant_59 rfl ?_
            refine g_ald E dX1_grant_61 rfl rfl rfl (by omega) ?_
            refine g_aload_n E dX1_grant_62 rfl rfl ?_
            refine g_getR E inX1_grant rfl flX1_grant_51 dX1_grant_63 (by decide) rfl ?_
            refine g_iload E dX1_grant_66 rfl ?_
            refine g_ald E dX1_grant_68 rfl rfl rfl (by omega) ?_
            refine g_isub E dX1_grant_69 ?_
            refine g_goto E dX1_grant_70 (tgt := 74) (by decide) ?_
            refine f74 _ _ _ (by omega) (fun v hv => ?_)
            subst hv
            rw [e9]
            exact ⟨rfl, rfl⟩
      refine g_iload_n E dX1_grant_26 rfl rfl ?_
      refine g_if_eq_f E dX1_grant_27 (tgt := 157) (by decide) (by rw [if_neg (by omega)]; omega) (by rw [if_neg (by omega)]; omega) ?_
      refine g_iconst E dX1_grant_30 ?_
      refine g_istore_n E (lv' := [_, _, _, _, _, _, _]) dX1_grant_31 rfl (Nat.le_of_ble_eq_true rfl) rfl ?_
      refine g_iconst E dX1_grant_32 ?_
      refine g_istore E (lv' := [_, _, _, _, _, _, _]) dX1_grant_33 (Nat.le_of_ble_eq_true rfl) rfl ?_
      exact g_eq (key2 0 (by omega) _ _) rfl (by show _ = [_, _, _, some (Value.int (iI (if (pR g10 g6 g12 (pl : Int) Dn g11 (mRoom g0 g1 pl) n).2 < (pR g10 g6 g12 (pl : Int) Dn g11 (mRoom g0 g1 pl) n).2 then (1 : Int) else 0))), _, _, _]; rw [if_neg (by omega)]; rfl) rfl
  have h0 : (if (0 : Nat) = N + 1 then (0 : Int) else 1) = 1 := if_neg (by omega)
  by_cases hz : pl = 0
  · have e9 : mRoom g0 g1 pl = 1000 := if_pos hz
    refine g_iload_n E dX1_grant_0 rfl rfl ?_
    refine g_if_ne_f E dX1_grant_1 (tgt := 10) (by decide) (by omega) (by omega) ?_
    refine g_sipush E dX1_grant_4 (by decide) ?_
    refine g_goto E dX1_grant_7 (tgt := 23) (by decide) ?_
    refine g_istore_n E (lv' := [_, _, _, _, _, _, _]) dX1_grant_23 rfl (Nat.le_of_ble_eq_true rfl) rfl ?_
    refine g_iconst E dX1_grant_24 ?_
    refine g_istore_n E (lv' := [_, _, _, _, _, _, _]) dX1_grant_25 rfl (Nat.le_of_ble_eq_true rfl) rfl ?_
    exact g_eq (key 0 (by omega) _ _ _) rfl (by rw [h0]; show _ = [_, _, some (Value.int (iI (mRoom g0 g1 pl))), _, _, _, _]; rw [e9]) rfl
  · have e9 : mRoom g0 g1 pl = g0 pl - g1 pl := if_neg hz
    refine g_iload_n E dX1_grant_0 rfl rfl ?_
    refine g_if_ne_t E dX1_grant_1 (tgt := 10) (by decide) (by omega) (by omega) ?_
    refine g_aload_n E dX1_grant_10 rfl rfl ?_
    refine g_getR E inX1_grant rfl flX1_grant_13 dX1_grant_11 (by decide) rfl ?_
    refine g_iload_n E dX1_grant_14 rfl rfl ?_
    refine g_ald E dX1_grant_15 rfl rfl rfl (by omega) ?_
    refine g_aload_n E dX1_grant_16 rfl rfl ?_
    refine g_getR E inX1_grant rfl flX1_grant_17 dX1_grant_17 (by decide) rfl ?_
    refine g_iload_n E dX1_grant_20 rfl rfl ?_
    refine g_ald E dX1_grant_21 rfl rfl rfl (by omega) ?_
    refine g_isub E dX1_grant_22 ?_
    refine g_istore_n E (lv' := [_, _, _, _, _, _, _]) dX1_grant_23 rfl (Nat.le_of_ble_eq_true rfl) rfl ?_
    refine g_iconst E dX1_grant_24 ?_
    refine g_istore_n E (lv' := [_, _, _, _, _, _, _]) dX1_grant_25 rfl (Nat.le_of_ble_eq_true rfl) rfl ?_
    exact g_eq (key 0 (by omega) _ _ _) rfl (by rw [h0]; show _ = [_, _, some (Value.int (iI (mRoom g0 g1 pl))), _, _, _, _]; rw [e9]) rfl
