set_option maxHeartbeats 4000000 in
set_option maxRecDepth 100000 in
theorem zL_arePlacesSo {l : Launch} {D : va_G} {cI cZ cL : ClassId} {q : Nat} {r : Nat → Nat} {t : Int} (hfl : l.stackTraces = false) : gMN l yL_arePlacesSo wsL_arePlacesSo (rK 10 1) 1 D (gTyL cI cZ cL) (zX cI cZ q r t) [.ref q] 1 (zX cI cZ q r t) := by
  refine g_ofN (ty := .boolean) (by decide +kernel) rfl rfl (Nat.le_of_ble_eq_true rfl) (g_cat1 rfl) (g_narZ (Or.inr rfl)) ?_
  intro p e s m args below meth c Q A0 E C hret
  have hts := E.1.2.2.2.2
  show gJ p l e (rK 10 1) s m args below meth c 0 0 Q A0 D (zX cI cZ q r t) [some (.ref q), none, none, none, none, none, none] 0 []
  refine g_iconst E dL_arePlacesSo_0 ?_
  refine g_istore_n E (lv' := [_, _, _, _, _, _, _]) dL_arePlacesSo_1 rfl (Nat.le_of_ble_eq_true rfl) rfl ?_
  refine g_iconst E dL_arePlacesSo_2 ?_
  refine g_istore_n E (lv' := [_, _, _, _, _, _, _]) dL_arePlacesSo_3 rfl (Nat.le_of_ble_eq_true rfl) rfl ?_
  refine g_aload_n E dL_arePlacesSo_4 rfl rfl ?_
  refine g_iconst E dL_arePlacesSo_5 ?_
  refine h_callNW E C (wr := []) wL_distance (vx_cwSW 2 hts gL_arePlacesSo_L_distance rfl rfl rfl hdS_distance ⟨(Nat.le_of_ble_eq_true rfl), (Nat.le_of_ble_eq_true rfl)⟩) rfl rfl rfl (Nat.le_of_ble_eq_true rfl) dL_arePlacesSo_6 (by decide) (fun Hb' C E => ?_)
  refine g_if_ne_f E dL_arePlacesSo_9 (tgt := 25) (by decide) (by omega) (by omega) ?_
  refine g_aload_n E dL_arePlacesSo_12 rfl rfl ?_
  refine g_iconst E dL_arePlacesSo_13 ?_
  refine h_callNW E C (wr := []) (wL_door hfl) (vx_cwSW 2 hts gL_arePlacesSo_L_door rfl rfl rfl hdS_door ⟨(Nat.le_of_ble_eq_true rfl), (Nat.le_of_ble_eq_true rfl)⟩) rfl rfl rfl (Nat.le_of_ble_eq_true rfl) dL_arePlacesSo_14 (by decide) (fun Hb' C E => ?_)
  refine g_iconst E dL_arePlacesSo_17 ?_
  refine g_icmp_ne_f E dL_arePlacesSo_18 (tgt := 25) (by decide) (by omega) (by omega) ?_
  refine g_iconst E dL_arePlacesSo_21 ?_
  refine g_goto E dL_arePlacesSo_22 (tgt := 26) (by decide) ?_
  refine g_istore_n E (lv' := [_, _, _, _, _, _, _]) dL_arePlacesSo_26 rfl (Nat.le_of_ble_eq_true rfl) rfl ?_
  refine g_iconst E dL_arePlacesSo_27 ?_
  refine g_istore E (lv' := [_, _, _, _, _, _, _]) dL_arePlacesSo_28 (Nat.le_of_ble_eq_true rfl) rfl ?_
  refine g_iload E dL_arePlacesSo_30 rfl ?_
  refine g_aload_n E dL_arePlacesSo_32 rfl rfl ?_
  refine g_callIW E [0, 1] rfl (wr := []) zX_places (cwV 0 hts gL_arePlacesSo_X0_places rfl rfl rfl hdL_X0_places ⟨(Nat.le_of_ble_eq_true rfl), (Nat.le_of_ble_eq_true rfl)⟩) rfl rfl rfl (Nat.le_of_ble_eq_true rfl) rfl rfl dL_arePlacesSo_33 (by decide) ?_
  refine g_icmp_ge_t E dL_arePlacesSo_36 (tgt := 172) (by decide) (by omega) (by omega) ?_
  refine g_aload_n E dL_arePlacesSo_172 rfl rfl ?_
  refine h_callNW E C (wr := []) wL_bound (vx_cwSW 1 hts gL_arePlacesSo_L_bound rfl rfl rfl hdS_bound ⟨(Nat.le_of_ble_eq_true rfl), (Nat.le_of_ble_eq_true rfl)⟩) rfl rfl rfl (Nat.le_of_ble_eq_true rfl) dL_arePlacesSo_173 (by decide) (fun Hb' C E => ?_)
  refine g_istore E (lv' := [_, _, _, _, _, _, _]) dL_arePlacesSo_176 (Nat.le_of_ble_eq_true rfl) rfl ?_
  refine g_iload_n E dL_arePlacesSo_178 rfl rfl ?_
  refine g_if_eq_f E dL_arePlacesSo_179 (tgt := 246) (by decide) (by omega) (by omega) ?_
  refine g_aload_n E dL_arePlacesSo_182 rfl rfl ?_
  refine g_callIW E [0, 1] rfl (wr := []) zX_inside (cwV 0 hts gL_arePlacesSo_X0_inside rfl rfl rfl hdL_X0_inside ⟨(Nat.le_of_ble_eq_true rfl), (Nat.le_of_ble_eq_true rfl)⟩) rfl rfl rfl (Nat.le_of_ble_eq_true rfl) rfl rfl dL_arePlacesSo_183 (by decide) ?_
  refine g_iload_n E dL_arePlacesSo_186 rfl rfl ?_
  refine g_icmp_ne_f E dL_arePlacesSo_187 (tgt := 246) (by decide) (by omega) (by omega) ?_
  refine g_aload_n E dL_arePlacesSo_190 rfl rfl ?_
  refine g_callIW E [0, 1] rfl (wr := []) zX_trapped (cwV 0 hts gL_arePlacesSo_X0_trapped rfl rfl rfl hdL_X0_trapped ⟨(Nat.le_of_ble_eq_true rfl), (Nat.le_of_ble_eq_true rfl)⟩) rfl rfl rfl (Nat.le_of_ble_eq_true rfl) rfl rfl dL_arePlacesSo_191 (by decide) ?_
  refine g_iload_n E dL_arePlacesSo_194 rfl rfl ?_
  refine g_icmp_ne_f E dL_arePlacesSo_195 (tgt := 246) (by decide) (by omega) (by omega) ?_
  refine g_iload E dL_arePlacesSo_198 rfl ?_
  refine g_if_ge_t E dL_arePlacesSo_200 (tgt := 207) (by decide) (by omega) (by omega) ?_
  refine g_iconst E dL_arePlacesSo_207 ?_
  refine g_iload_n E dL_arePlacesSo_208 rfl rfl ?_
  refine g_if_le_t E dL_arePlacesSo_209 (tgt := 216) (by decide) (by omega) (by omega) ?_
  refine g_iconst E dL_arePlacesSo_216 ?_
  refine g_icmp_ne_f E dL_arePlacesSo_217 (tgt := 246) (by decide) (by omega) (by omega) ?_
  refine g_iload E dL_arePlacesSo_220 rfl ?_
  refine g_if_ne_f E dL_arePlacesSo_222 (tgt := 229) (by decide) (by omega) (by omega) ?_
  refine g_iconst E dL_arePlacesSo_225 ?_
  refine g_goto E dL_arePlacesSo_226 (tgt := 230) (by decide) ?_
  refine g_iload_n E dL_arePlacesSo_230 rfl rfl ?_
  refine g_if_ne_f E dL_arePlacesSo_231 (tgt := 238) (by decide) (by omega) (by omega) ?_
  refine g_iconst E dL_arePlacesSo_234 ?_
  refine g_goto E dL_arePlacesSo_235 (tgt := 239) (by decide) ?_
  refine g_icmp_ne_f E dL_arePlacesSo_239 (tgt := 246) (by decide) (by omega) (by omega) ?_
  refine g_iconst E dL_arePlacesSo_242 ?_
  refine g_goto E dL_arePlacesSo_243 (tgt := 247) (by decide) ?_
  exact hret _ _ _ (C.mono (by omega)) dL_arePlacesSo_247
