set_option maxHeartbeats 4000000 in
set_option maxRecDepth 100000 in
theorem zL_act {l : Launch} {D : va_G} {cI cZ cL : ClassId} {q : Nat} {r : Nat → Nat} {t : Int} (hfl : l.stackTraces = false) : gMN l yL_act wsL_act (rK 10 1) 1 D (gTyL cI cZ cL) (zX cI cZ q r t) [.ref q, .int (iI 0)] (-99999) (zX cI cZ q r t) := by
  refine g_ofN (ty := .int) (by decide +kernel) rfl rfl (Nat.le_of_ble_eq_true rfl) (g_cat1 rfl) rfl ?_
  intro p e s m args below meth c Q A0 E C hret
  have hts := E.1.2.2.2.2
  show gJ p l e (rK 10 1) s m args below meth c 0 0 Q A0 D (zX cI cZ q r t) [some (.ref q), some (.int (iI 0)), none, none, none, none] 0 []
  refine g_iload_n E dL_act_0 rfl rfl ?_
  refine g_bipush E dL_act_1 (by decide) ?_
  refine g_ishrZ E dL_act_3 (v := 0) (by decide) ?_
  refine g_bipush E dL_act_4 (by decide) ?_
  refine g_callSI E (zL_low (by omega)) (va_cwS 2 hts gL_act_L_low rfl rfl rfl hdS_low ⟨(Nat.le_of_ble_eq_true rfl), (Nat.le_of_ble_eq_true rfl)⟩) rfl rfl rfl (Nat.le_of_ble_eq_true rfl) dL_act_6 (by decide) ?_
  refine g_if_ne_f E dL_act_9 (tgt := 16) (by decide) (by omega) (by omega) ?_
  refine g_iconst E dL_act_12 ?_
  refine g_goto E dL_act_13 (tgt := 17) (by decide) ?_
  refine g_istore_n E (lv' := [_, _, _, _, _, _]) dL_act_17 rfl (Nat.le_of_ble_eq_true rfl) rfl ?_
  refine g_aload_n E dL_act_18 rfl rfl ?_
  refine g_callIW E [0, 1] rfl (wr := []) zX_places (cwV 0 hts gL_act_X0_places rfl rfl rfl hdL_X0_places ⟨(Nat.le_of_ble_eq_true rfl), (Nat.le_of_ble_eq_true rfl)⟩) rfl rfl rfl (Nat.le_of_ble_eq_true rfl) rfl rfl dL_act_19 (by decide) ?_
  refine g_istore_n E (lv' := [_, _, _, _, _, _]) dL_act_22 rfl (Nat.le_of_ble_eq_true rfl) rfl ?_
  refine g_iload_n E dL_act_23 rfl rfl ?_
  refine g_iconst E dL_act_24 ?_
  refine g_ishrZ E dL_act_25 (v := 0) (by decide) ?_
  refine g_iload_n E dL_act_26 rfl rfl ?_
  refine g_iload_n E dL_act_27 rfl rfl ?_
  refine g_if_eq_f E dL_act_28 (tgt := 35) (by decide) (by omega) (by omega) ?_
  refine g_iconst E dL_act_31 ?_
  refine g_goto E dL_act_32 (tgt := 36) (by decide) ?_
  refine g_iadd E dL_act_36 ?_
  refine g_callSI E (zL_low (by omega)) (va_cwS 2 hts gL_act_L_low rfl rfl rfl hdS_low ⟨(Nat.le_of_ble_eq_true rfl), (Nat.le_of_ble_eq_true rfl)⟩) rfl rfl rfl (Nat.le_of_ble_eq_true rfl) dL_act_37 (by decide) ?_
  refine g_istore E (lv' := [_, _, _, _, _, _]) dL_act_40 (Nat.le_of_ble_eq_true rfl) rfl ?_
  refine g_iload_n E dL_act_42 rfl rfl ?_
  refine g_if_eq_f E dL_act_43 (tgt := 59) (by decide) (by omega) (by omega) ?_
  refine g_iload_n E dL_act_46 rfl rfl ?_
  refine g_bipush E dL_act_47 (by decide) ?_
  refine g_ishrZ E dL_act_49 (v := 0) (by decide) ?_
  refine g_iload_n E dL_act_50 rfl rfl ?_
  refine g_iconst E dL_act_51 ?_
  refine g_iadd E dL_act_52 ?_
  refine g_callSI E (zL_low (by omega)) (va_cwS 2 hts gL_act_L_low rfl rfl rfl hdS_low ⟨(Nat.le_of_ble_eq_true rfl), (Nat.le_of_ble_eq_true rfl)⟩) rfl rfl rfl (Nat.le_of_ble_eq_true rfl) dL_act_53 (by decide) ?_
  refine g_goto E dL_act_56 (tgt := 85) (by decide) ?_
  refine g_istore E (lv' := [_, _, _, _, _, _]) dL_act_85 (Nat.le_of_ble_eq_true rfl) rfl ?_
  refine g_iload_n E dL_act_87 rfl rfl ?_
  refine g_bipush E dL_act_88 (by decide) ?_
  refine g_callSI E (zL_low (by omega)) (va_cwS 2 hts gL_act_L_low rfl rfl rfl hdS_low ⟨(Nat.le_of_ble_eq_true rfl), (Nat.le_of_ble_eq_true rfl)⟩) rfl rfl rfl (Nat.le_of_ble_eq_true rfl) dL_act_90 (by decide) ?_
  refine g_tab E (off := 59) (tgt := 152) dL_act_93 (by decide) (by decide) (by decide) (by decide) ?_
  refine g_aload_n E dL_act_152 rfl rfl ?_
  refine g_iload_n E dL_act_153 rfl rfl ?_
  refine g_if_eq_f E dL_act_154 (tgt := 169) (by decide) (by omega) (by omega) ?_
  refine g_iload_n E dL_act_157 rfl rfl ?_
  refine g_bipush E dL_act_158 (by decide) ?_
  refine g_ishrZ E dL_act_160 (v := 0) (by decide) ?_
  refine g_bipush E dL_act_161 (by decide) ?_
  refine g_callSI E (zL_low (by omega)) (va_cwS 2 hts gL_act_L_low rfl rfl rfl hdS_low ⟨(Nat.le_of_ble_eq_true rfl), (Nat.le_of_ble_eq_true rfl)⟩) rfl rfl rfl (Nat.le_of_ble_eq_true rfl) dL_act_163 (by decide) ?_
  refine g_goto E dL_act_166 (tgt := 180) (by decide) ?_
  refine h_callNW E C (wr := []) (wL_addPlace hfl) (vx_cwSW 2 hts gL_act_L_addPlace rfl rfl rfl hdS_addPlace ⟨(Nat.le_of_ble_eq_true rfl), (Nat.le_of_ble_eq_true rfl)⟩) rfl rfl rfl (Nat.le_of_ble_eq_true rfl) dL_act_180 (by decide) (fun Hb' C E => ?_)
  exact hret _ _ _ (C.mono (by omega)) dL_act_183
set_option maxHeartbeats 4000000 in
set_option maxRecDepth 100000 in
theorem zL_areAlike {l : Launch} {D : va_G} {cI cZ cL : ClassId} {q q2 : Nat} {r r2 : Nat → Nat} {t : Int} (hfl : l.stackTraces = false) (ht : 0 ≤ t ∧ t ≤ 1000) : gMN l yL_areAlike wsL_areAlike (rK 10 2) 2 D (gTyL cI cZ cL) (zX cI cZ q r t ++ zX cI cZ q2 r2 t) [.ref q, .ref q2] 1 (zX cI cZ q r t ++ zX cI cZ q2 r2 t) := by
  refine g_ofN (ty := .boolean) (by decide +kernel) rfl rfl (Nat.le_of_ble_eq_true rfl) (g_cat1 rfl) (g_narZ (Or.inr rfl)) ?_
  intro p e s m args below meth c Q A0 E C hret
  have hts := E.1.2.2.2.2
  show gJ p l e (rK 10 2) s m args below meth c 0 0 Q A0 D (zX cI cZ q r t ++ zX cI cZ q2 r2 t) [some (.ref q), some (.ref q2), none, none] 0 []
  refine g_aload_n E dL_areAlike_0 rfl rfl ?_
  refine g_callM E [0, 1] rfl zX_places (cwV 0 hts gL_areAlike_X0_places rfl rfl rfl hdL_X0_places ⟨(Nat.le_of_ble_eq_true rfl), (Nat.le_of_ble_eq_true rfl)⟩) rfl rfl rfl (Nat.le_of_ble_eq_true rfl) rfl rfl dL_areAlike_1 (by decide) ?_
  refine g_aload_n E dL_areAlike_4 rfl rfl ?_
  refine g_callIW E [0, 1] rfl zX_places (cwV 0 hts gL_areAlike_X0_places rfl rfl rfl hdL_X0_places ⟨(Nat.le_of_ble_eq_true rfl), (Nat.le_of_ble_eq_true rfl)⟩) rfl rfl rfl (Nat.le_of_ble_eq_true rfl) rfl rfl dL_areAlike_5 (by decide) ?_
  refine g_icmp_ne_f E dL_areAlike_8 (tgt := 81) (by decide) (by omega) (by omega) ?_
  refine g_aload_n E dL_areAlike_11 rfl rfl ?_
  refine g_callM E [0, 1] rfl zX_doors (cwV 0 hts gL_areAlike_X0_doors rfl rfl rfl hdL_X0_doors ⟨(Nat.le_of_ble_eq_true rfl), (Nat.le_of_ble_eq_true rfl)⟩) rfl rfl rfl (Nat.le_of_ble_eq_true rfl) rfl rfl dL_areAlike_12 (by decide) ?_
  refine g_aload_n E dL_areAlike_15 rfl rfl ?_
  refine g_callIW E [0, 1] rfl zX_doors (cwV 0 hts gL_areAlike_X0_doors rfl rfl rfl hdL_X0_doors ⟨(Nat.le_of_ble_eq_true rfl), (Nat.le_of_ble_eq_true rfl)⟩) rfl rfl rfl (Nat.le_of_ble_eq_true rfl) rfl rfl dL_areAlike_16 (by decide) ?_
  refine g_icmp_ne_f E dL_areAlike_19 (tgt := 81) (by decide) (by omega) (by omega) ?_
  refine g_aload_n E dL_areAlike_22 rfl rfl ?_
  refine g_callM E [0, 1] rfl zX_now (cwV 0 hts gL_areAlike_X0_now rfl rfl rfl hdL_X0_now ⟨(Nat.le_of_ble_eq_true rfl), (Nat.le_of_ble_eq_true rfl)⟩) rfl rfl rfl (Nat.le_of_ble_eq_true rfl) rfl rfl dL_areAlike_23 (by decide) ?_
  refine g_aload_n E dL_areAlike_26 rfl rfl ?_
  refine g_callIW E [0, 1] rfl zX_now (cwV 0 hts gL_areAlike_X0_now rfl rfl rfl hdL_X0_now ⟨(Nat.le_of_ble_eq_true rfl), (Nat.le_of_ble_eq_true rfl)⟩) rfl rfl rfl (Nat.le_of_ble_eq_true rfl) rfl rfl dL_areAlike_27 (by decide) ?_
  refine g_icmp_ne_f E dL_areAlike_30 (tgt := 81) (by decide) (by omega) (by omega) ?_
  refine g_aload_n E dL_areAlike_33 rfl rfl ?_
  refine g_callM E [0, 1] rfl zX_inside (cwV 0 hts gL_areAlike_X0_inside rfl rfl rfl hdL_X0_inside ⟨(Nat.le_of_ble_eq_true rfl), (Nat.le_of_ble_eq_true rfl)⟩) rfl rfl rfl (Nat.le_of_ble_eq_true rfl) rfl rfl dL_areAlike_34 (by decide) ?_
  refine g_aload_n E dL_areAlike_37 rfl rfl ?_
  refine g_callIW E [0, 1] rfl zX_inside (cwV 0 hts gL_areAlike_X0_inside rfl rfl rfl hdL_X0_inside ⟨(Nat.le_of_ble_eq_true rfl), (Nat.le_of_ble_eq_true rfl)⟩) rfl rfl rfl (Nat.le_of_ble_eq_true rfl) rfl rfl dL_areAlike_38 (by decide) ?_
  refine g_icmp_ne_f E dL_areAlike_41 (tgt := 81) (by decide) (by omega) (by omega) ?_
  refine g_aload_n E dL_areAlike_44 rfl rfl ?_
  refine g_callM E [0, 1] rfl zX_waited (cwV 0 hts gL_areAlike_X0_waited rfl rfl rfl hdL_X0_waited ⟨(Nat.le_of_ble_eq_true rfl), (Nat.le_of_ble_eq_true rfl)⟩) rfl rfl rfl (Nat.le_of_ble_eq_true rfl) rfl rfl dL_areAlike_45 (by decide) ?_
  refine g_aload_n E dL_areAlike_48 rfl rfl ?_
  refine g_callIW E [0, 1] rfl zX_waited (cwV 0 hts gL_areAlike_X0_waited rfl rfl rfl hdL_X0_waited ⟨(Nat.le_of_ble_eq_true rfl), (Nat.le_of_ble_eq_true rfl)⟩) rfl rfl rfl (Nat.le_of_ble_eq_true rfl) rfl rfl dL_areAlike_49 (by decide) ?_
  refine g_icmp_ne_f E dL_areAlike_52 (tgt := 81) (by decide) (by omega) (by omega) ?_
  refine g_aload_n E dL_areAlike_55 rfl rfl ?_
  refine g_swap ?_
  refine h_callNW E C (wr := (zX cI cZ q2 r2 t)) (wL_latest hfl) (vx_cwSW 1 hts gL_areAlike_L_latest rfl rfl rfl hdS_latest ⟨(Nat.le_of_ble_eq_true rfl), (Nat.le_of_ble_eq_true rfl)⟩) rfl rfl rfl (Nat.le_of_ble_eq_true rfl) dL_areAlike_56 (by decide) (fun Hb' C E => ?_)
  refine g_swap ?_
  refine g_aload_n E dL_areAlike_59 rfl rfl ?_
  refine h_callNW E C (wr := (zX cI cZ q r t)) (wL_latest hfl) (vx_cwSW 1 hts gL_areAlike_L_latest rfl rfl rfl hdS_latest ⟨(Nat.le_of_ble_eq_true rfl), (Nat.le_of_ble_eq_true rfl)⟩) rfl rfl rfl (Nat.le_of_ble_eq_true rfl) dL_areAlike_60 (by decide) (fun Hb' C E => ?_)
  refine g_icmp_ne_f E dL_areAlike_63 (tgt := 81) (by decide) (by omega) (by omega) ?_
  refine g_aload_n E dL_areAlike_66 rfl rfl ?_
  refine g_callM E [0, 1] rfl zX_trapped (cwV 0 hts gL_areAlike_X0_trapped rfl rfl rfl hdL_X0_trapped ⟨(Nat.le_of_ble_eq_true rfl), (Nat.le_of_ble_eq_true rfl)⟩) rfl rfl rfl (Nat.le_of_ble_eq_true rfl) rfl rfl dL_areAlike_67 (by decide) ?_
  refine g_aload_n E dL_areAlike_70 rfl rfl ?_
  refine g_callIW E [0, 1] rfl zX_trapped (cwV 0 hts gL_areAlike_X0_trapped rfl rfl rfl hdL_X0_trapped ⟨(Nat.le_of_ble_eq_true rfl), (Nat.le_of_ble_eq_true rfl)⟩) rfl rfl rfl (Nat.le_of_ble_eq_true rfl) rfl rfl dL_areAlike_71 (by decide) ?_
  refine g_icmp_ne_f E dL_areAlike_74 (tgt := 81) (by decide) (by omega) (by omega) ?_
  refine g_iconst E dL_areAlike_77 ?_
  refine g_goto E dL_areAlike_78 (tgt := 82) (by decide) ?_
  refine g_istore_n E (lv' := [_, _, _, _]) dL_areAlike_82 rfl (Nat.le_of_ble_eq_true rfl) rfl ?_
  refine g_iconst E dL_areAlike_83 ?_
  refine g_istore_n E (lv' := [_, _, _, _]) dL_areAlike_84 rfl (Nat.le_of_ble_eq_true rfl) rfl ?_
  refine g_iload_n E dL_areAlike_85 rfl rfl ?_
  refine g_aload_n E dL_areAlike_86 rfl rfl ?_
  refine g_callM E [0, 1] rfl zX_places (cwV 0 hts gL_areAlike_X0_places rfl rfl rfl hdL_X0_places ⟨(Nat.le_of_ble_eq_true rfl), (Nat.le_of_ble_eq_true rfl)⟩) rfl rfl rfl (Nat.le_of_ble_eq_true rfl) rfl rfl dL_areAlike_87 (by decide) ?_
  refine g_icmp_ge_f E dL_areAlike_90 (tgt := 135) (by decide) (by omega) (by omega) ?_
  refine g_iload_n E dL_areAlike_93 rfl rfl ?_
  refine g_if_eq_f E dL_areAlike_94 (tgt := 135) (by decide) (by omega) (by omega) ?_
  refine g_aload_n E dL_areAlike_97 rfl rfl ?_
  refine g_iload_n E dL_areAlike_98 rfl rfl ?_
  refine g_callM E [0, 1] rfl zX_people (cwV 1 hts gL_areAlike_X0_people rfl rfl rfl hdL_X0_people ⟨(Nat.le_of_ble_eq_true rfl), (Nat.le_of_ble_eq_true rfl)⟩) rfl rfl rfl (Nat.le_of_ble_eq_true rfl) rfl rfl dL_areAlike_99 (by decide) ?_
  refine g_aload_n E dL_areAlike_102 rfl rfl ?_
  refine g_iload_n E dL_areAlike_103 rfl rfl ?_
  refine g_callIW E [0, 1] rfl zX_people (cwV 1 hts gL_areAlike_X0_people rfl rfl rfl hdL_X0_people ⟨(Nat.le_of_ble_eq_true rfl), (Nat.le_of_ble_eq_true rfl)⟩) rfl rfl rfl (Nat.le_of_ble_eq_true rfl) rfl rfl dL_areAlike_104 (by decide) ?_
  refine g_icmp_ne_f E dL_areAlike_107 (tgt := 127) (by decide) (by omega) (by omega) ?_
  refine g_aload_n E dL_areAlike_110 rfl rfl ?_
  refine g_iload_n E dL_areAlike_111 rfl rfl ?_
  refine g_callM E [0, 1] rfl zX_wouldMove (cwV 1 hts gL_areAlike_X0_wouldMove rfl rfl rfl hdL_X0_wouldMove ⟨(Nat.le_of_ble_eq_true rfl), (Nat.le_of_ble_eq_true rfl)⟩) rfl rfl rfl (Nat.le_of_ble_eq_true rfl) rfl rfl dL_areAlike_112 (by decide) ?_
  refine g_aload_n E dL_areAlike_115 rfl rfl ?_
  refine g_iload_n E dL_areAlike_116 rfl rfl ?_
  refine g_callIW E [0, 1] rfl zX_wouldMove (cwV 1 hts gL_areAlike_X0_wouldMove rfl rfl rfl hdL_X0_wouldMove ⟨(Nat.le_of_ble_eq_true rfl), (Nat.le_of_ble_eq_true rfl)⟩) rfl rfl rfl (Nat.le_of_ble_eq_true rfl) rfl rfl dL_areAlike_117 (by decide) ?_
  refine g_icmp_ne_f E dL_areAlike_120 (tgt := 127) (by decide) (by omega) (by omega) ?_
  refine g_iconst E dL_areAlike_123 ?_
  refine g_goto E dL_areAlike_124 (tgt := 128) (by decide) ?_
  refine g_istore_n E (lv' := [_, _, _, _]) dL_areAlike_128 rfl (Nat.le_of_ble_eq_true rfl) rfl ?_
  refine g_iinc E (lv' := [_, _, _, _]) dL_areAlike_129 rfl rfl ?_
  refine g_goto E dL_areAlike_132 (tgt := 85) (by decide) ?_
  refine g_iload_n E dL_areAlike_85 rfl rfl ?_
  refine g_aload_n E dL_areAlike_86 rfl rfl ?_
  refine g_callM E [0, 1] rfl zX_places (cwV 0 hts gL_areAlike_X0_places rfl rfl rfl hdL_X0_places ⟨(Nat.le_of_ble_eq_true rfl), (Nat.le_of_ble_eq_true rfl)⟩) rfl rfl rfl (Nat.le_of_ble_eq_true rfl) rfl rfl dL_areAlike_87 (by decide) ?_
  refine g_icmp_ge_t E dL_areAlike_90 (tgt := 135) (by decide) (by omega) (by omega) ?_
  refine g_iload_n E dL_areAlike_135 rfl rfl ?_
  exact hret _ _ _ (C.mono (by omega)) dL_areAlike_136
