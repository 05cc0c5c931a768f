set_option maxRecDepth 100000 in
theorem m_X1_init (l : Launch) (D : va_G) (k : Nat → ClassId) (b : Nat) : mE l yX1_init cX1_init 1 none 5 70 7 700 D (kTy k) [.ref b] [(b, .inr (1, [.int 0, .null, .null, .null, .null, .null, .null, .null]))] none (fun W1 => ∃ a0 a1 a2 a3 a4 a5 a6, W1 = wSA k b a0 a1 a2 a3 a4 a5 a6 0 (fun _ => 0) (fun _ => 0) (fun _ => 0) (fun _ => 0) (fun _ => 0) (fun _ => 0) (fun _ => 0)) := by
  refine mE.of (lv' := [(0, .ref b)]) (by decide) (Nat.le_of_ble_eq_true rfl) rfl ?_
  intro p e s m args below meth c E hr hlk hm hA
  refine k_aload_n E 0 rfl rfl dX1_init_0 ?_
  refine k_objInit E q_58 dX1_init_1 (by decide) (Nat.le_of_ble_eq_true rfl) ?_
  refine k_aload_n E 0 rfl rfl dX1_init_4 ?_
  refine k_iconst E (v := 0) (by decide) dX1_init_5 ?_
  refine k_put (ws' := [(b, .inr (1, [.int 0, .null, .null, .null, .null, .null, .null, .null]))]) E inX1 tyX1 tyX1_ok nmX1 0 rfl rfl 0 (by decide) q_59 rfl rfl rfl rfl (Nat.le_of_ble_eq_true rfl) rfl dX1_init_6 ?_
  refine k_aload_n E 0 rfl rfl dX1_init_9 ?_
  refine k_bipush E (v := 100) (by decide) dX1_init_10 ?_
  refine k_newa E hA (ty := .int) rfl q_52 0 rfl (fun _ h => h) (a0 := (100, .inl (fun _ => 0))) (fun _ => rfl) (by decide) (by decide) (by decide) (by decide) (by decide) dX1_init_12 (fun q1 => ?_)
  refine k_putF (ws' := ((b, .inr (1, [.int 0, .ref q1, .null, .null, .null, .null, .null, .null])) :: ([(q1, .inl (k 0, 100, .inl (fun _ => 0)))]))) E inX1 tyX1 tyX1_ok nmX1 0 rfl rfl 1 (by decide) q_61 rfl rfl hm rfl rfl rfl (Nat.le_of_ble_eq_true rfl) rfl dX1_init_14 ?_
  refine k_aload_n E 0 rfl rfl dX1_init_17 ?_
  refine k_bipush E (v := 100) (by decide) dX1_init_18 ?_
  refine k_newa E hA (ty := .int) rfl q_52 0 rfl (fun _ h => h) (a0 := (100, .inl (fun _ => 0))) (fun _ => rfl) (by decide) (by decide) (by decide) (by decide) (by decide) dX1_init_20 (fun q2 => ?_)
  refine k_putF (ws' := ((b, .inr (1, [.int 0, .ref q1, .ref q2, .null, .null, .null, .null, .null])) :: ([(q1, .inl (k 0, 100, .inl (fun _ => 0)))] ++ [(q2, .inl (k 0, 100, .inl (fun _ => 0)))]))) E inX1 tyX1 tyX1_ok nmX1 0 rfl rfl 2 (by decide) q_63 rfl rfl hm rfl rfl rfl (Nat.le_of_ble_eq_true rfl) rfl dX1_init_22 ?_
  refine k_aload_n E 0 rfl rfl dX1_init_25 ?_
  refine k_bipush E (v := 100) (by decide) dX1_init_26 ?_
  refine k_newa E hA (ty := .char) rfl q_91 1 rfl (fun _ h => h) (a0 := (100, .inl (fun _ => 0))) (fun _ => rfl) (by decide) (by decide) (by decide) (by decide) (by decide) dX1_init_28 (fun q3 => ?_)
  refine k_putF (ws' := ((b, .inr (1, [.int 0, .ref q1, .ref q2, .ref q3, .null, .null, .null, .null])) :: ([(q1, .inl (k 0, 100, .inl (fun _ => 0)))] ++ [(q2, .inl (k 0, 100, .inl (fun _ => 0)))] ++ [(q3, .inl (k 1, 100, .inl (fun _ => 0)))]))) E inX1 tyX1 tyX1_ok nmX1 0 rfl rfl 3 (by decide) q_65 rfl rfl hm rfl rfl rfl (Nat.le_of_ble_eq_true rfl) rfl dX1_init_30 ?_
  refine k_aload_n E 0 rfl rfl dX1_init_33 ?_
  refine k_bipush E (v := 100) (by decide) dX1_init_34 ?_
  refine k_newa E hA (ty := .char) rfl q_91 1 rfl (fun _ h => h) (a0 := (100, .inl (fun _ => 0))) (fun _ => rfl) (by decide) (by decide) (by decide) (by decide) (by decide) dX1_init_36 (fun q4 => ?_)
  refine k_putF (ws' := ((b, .inr (1, [.int 0, .ref q1, .ref q2, .ref q3, .ref q4, .null, .null, .null])) :: ([(q1, .inl (k 0, 100, .inl (fun _ => 0)))] ++ [(q2, .inl (k 0, 100, .inl (fun _ => 0)))] ++ [(q3, .inl (k 1, 100, .inl (fun _ => 0)))] ++ [(q4, .inl (k 1, 100, .inl (fun _ => 0)))]))) E inX1 tyX1 tyX1_ok nmX1 0 rfl rfl 4 (by decide) q_67 rfl rfl hm rfl rfl rfl (Nat.le_of_ble_eq_true rfl) rfl dX1_init_38 ?_
  refine k_aload_n E 0 rfl rfl dX1_init_41 ?_
  refine k_bipush E (v := 100) (by decide) dX1_init_42 ?_
  refine k_newa E hA (ty := .int) rfl q_52 0 rfl (fun _ h => h) (a0 := (100, .inl (fun _ => 0))) (fun _ => rfl) (by decide) (by decide) (by decide) (by decide) (by decide) dX1_init_44 (fun q5 => ?_)
  refine k_putF (ws' := ((b, .inr (1, [.int 0, .ref q1, .ref q2, .ref q3, .ref q4, .ref q5, .null, .null])) :: ([(q1, .inl (k 0, 100, .inl (fun _ => 0)))] ++ [(q2, .inl (k 0, 100, .inl (fun _ => 0)))] ++ [(q3, .inl (k 1, 100, .inl (fun _ => 0)))] ++ [(q4, .inl (k 1, 100, .inl (fun _ => 0)))] ++ [(q5, .inl (k 0, 100, .inl (fun _ => 0)))]))) E inX1 tyX1 tyX1_ok nmX1 0 rfl rfl 5 (by decide) q_69 rfl rfl hm rfl rfl rfl (Nat.le_of_ble_eq_true rfl) rfl dX1_init_46 ?_
  refine k_aload_n E 0 rfl rfl dX1_init_49 ?_
  refine k_bipush E (v := 100) (by decide) dX1_init_50 ?_
  refine k_newa E hA (ty := .int) rfl q_52 0 rfl (fun _ h => h) (a0 := (100, .inl (fun _ => 0))) (fun _ => rfl) (by decide) (by decide) (by decide) (by decide) (by decide) dX1_init_52 (fun q6 => ?_)
  refine k_putF (ws' := ((b, .inr (1, [.int 0, .ref q1, .ref q2, .ref q3, .ref q4, .ref q5, .ref q6, .null])) :: ([(q1, .inl (k 0, 100, .inl (fun _ => 0)))] ++ [(q2, .inl (k 0, 100, .inl (fun _ => 0)))] ++ [(q3, .inl (k 1, 100, .inl (fun _ => 0)))] ++ [(q4, .inl (k 1, 100, .inl (fun _ => 0)))] ++ [(q5, .inl (k 0, 100, .inl (fun _ => 0)))] ++ [(q6, .inl (k 0, 100, .inl (fun _ => 0)))]))) E inX1 tyX1 tyX1_ok nmX1 0 rfl rfl 6 (by decide) q_71 rfl rfl hm rfl rfl rfl (Nat.le_of_ble_eq_true rfl) rfl dX1_init_54 ?_
  refine k_aload_n E 0 rfl rfl dX1_init_57 ?_
  refine k_bipush E (v := 100) (by decide) dX1_init_58 ?_
  refine k_newa E hA (ty := .int) rfl q_52 0 rfl (fun _ h => h) (a0 := (100, .inl (fun _ => 0))) (fun _ => rfl) (by decide) (by decide) (by decide) (by decide) (by decide) dX1_init_60 (fun q7 => ?_)
  refine k_putF (ws' := ((b, .inr (1, [.int 0, .ref q1, .ref q2, .ref q3, .ref q4, .ref q5, .ref q6, .ref q7])) :: ([(q1, .inl (k 0, 100, .inl (fun _ => 0)))] ++ [(q2, .inl (k 0, 100, .inl (fun _ => 0)))] ++ [(q3, .inl (k 1, 100, .inl (fun _ => 0)))] ++ [(q4, .inl (k 1, 100, .inl (fun _ => 0)))] ++ [(q5, .inl (k 0, 100, .inl (fun _ => 0)))] ++ [(q6, .inl (k 0, 100, .inl (fun _ => 0)))] ++ [(q7, .inl (k 0, 100, .inl (fun _ => 0)))]))) E inX1 tyX1 tyX1_ok nmX1 0 rfl rfl 7 (by decide) q_72 rfl rfl hm rfl rfl rfl (Nat.le_of_ble_eq_true rfl) rfl dX1_init_62 ?_
  exact ke_vret E hr hlk ⟨q1, q2, q3, q4, q5, q6, q7, rfl⟩ (by decide) (by decide) dX1_init_65
set_option maxRecDepth 100000 in
theorem m_X0_init (l : Launch) (D : va_G) (k : Nat → ClassId) (b : Nat) : mE l yX0_init cX0_init 1 none 5 70 10 54 D (kTy k) [.ref b] [(b, .inr (0, [.int 0, .null, .null, .null, .null]))] none (fun W1 => ∃ a0 a1 a2 a3 rr, W1 = wFA k b a0 a1 a2 a3 rr 0 (fun _ => 0) (fun _ => 0) (fun _ => 0) (fun _ _ => 0)) := by
  refine mE.of (lv' := [(0, .ref b)]) (by decide) (Nat.le_of_ble_eq_true rfl) rfl ?_
  intro p e s m args below meth c E hr hlk hm hA
  refine k_aload_n E 0 rfl rfl dX0_init_0 ?_
  refine k_objInit E q_30 dX0_init_1 (by decide) (Nat.le_of_ble_eq_true rfl) ?_
  refine k_aload_n E 0 rfl rfl dX0_init_4 ?_
  refine k_iconst E (v := 0) (by decide) dX0_init_5 ?_
  refine k_put (ws' := [(b, .inr (0, [.int 0, .null, .null, .null, .null]))]) E inX0 tyX0 tyX0_ok nmX0 0 rfl rfl 0 (by decide) q_33 rfl rfl rfl rfl (Nat.le_of_ble_eq_true rfl) rfl dX0_init_6 ?_
  refine k_aload_n E 0 rfl rfl dX0_init_9 ?_
  refine k_bipush E (v := 6) (by decide) dX0_init_10 ?_
  refine k_newa E hA (ty := .int) rfl q_52 0 rfl (fun _ h => h) (a0 := (6, .inl (fun _ => 0))) (fun _ => rfl) (by decide) (by decide) (by decide) (by decide) (by decide) dX0_init_12 (fun q1 => ?_)
  refine k_putF (ws' := ((b, .inr (0, [.int 0, .ref q1, .null, .null, .null])) :: ([(q1, .inl (k 0, 6, .inl (fun _ => 0)))]))) E inX0 tyX0 tyX0_ok nmX0 0 rfl rfl 1 (by decide) q_35 rfl rfl hm rfl rfl rfl (Nat.le_of_ble_eq_true rfl) rfl dX0_init_14 ?_
  refine k_aload_n E 0 rfl rfl dX0_init_17 ?_
  refine k_bipush E (v := 6) (by decide) dX0_init_18 ?_
  refine k_newa E hA (ty := .int) rfl q_52 0 rfl (fun _ h => h) (a0 := (6, .inl (fun _ => 0))) (fun _ => rfl) (by decide) (by decide) (by decide) (by decide) (by decide) dX0_init_20 (fun q2 => ?_)
  refine k_putF (ws' := ((b, .inr (0, [.int 0, .ref q1, .ref q2, .null, .null])) :: ([(q1, .inl (k 0, 6, .inl (fun _ => 0)))] ++ [(q2, .inl (k 0, 6, .inl (fun _ => 0)))]))) E inX0 tyX0 tyX0_ok nmX0 0 rfl rfl 2 (by decide) q_36 rfl rfl hm rfl rfl rfl (Nat.le_of_ble_eq_true rfl) rfl dX0_init_22 ?_
  refine k_aload_n E 0 rfl rfl dX0_init_25 ?_
  refine k_bipush E (v := 6) (by decide) dX0_init_26 ?_
  refine k_newa E hA (ty := .int) rfl q_52 0 rfl (fun _ h => h) (a0 := (6, .inl (fun _ => 0))) (fun _ => rfl) (by decide) (by decide) (by decide) (by decide) (by decide) dX0_init_28 (fun q3 => ?_)
  refine k_putF (ws' := ((b, .inr (0, [.int 0, .ref q1, .ref q2, .ref q3, .null])) :: ([(q1, .inl (k 0, 6, .inl (fun _ => 0)))] ++ [(q2, .inl (k 0, 6, .inl (fun _ => 0)))] ++ [(q3, .inl (k 0, 6, .inl (fun _ => 0)))]))) E inX0 tyX0 tyX0_ok nmX0 0 rfl rfl 3 (by decide) q_38 rfl rfl hm rfl rfl rfl (Nat.le_of_ble_eq_true rfl) rfl dX0_init_30 ?_
  refine k_aload_n E 0 rfl rfl dX0_init_33 ?_
  refine k_bipush E (v := 6) (by decide) dX0_init_34 ?_
  refine k_iconst E (v := 5) (by decide) dX0_init_36 ?_
  refine k_mna E hA q_31 (by decide) (by decide) dX0_init_37 (fun qm r => ?_)
  refine k_putF (ws' := ((b, .inr (0, [.int 0, .ref q1, .ref q2, .ref q3, .ref qm])) :: ([(q1, .inl (k 0, 6, .inl (fun _ => 0)))] ++ [(q2, .inl (k 0, 6, .inl (fun _ => 0)))] ++ [(q3, .inl (k 0, 6, .inl (fun _ => 0)))] ++ [(qm, .inl (k 5, 6, .inr (.inr (.inr (.inr (fun i => if i < 6 then some (r i) else none))))))] ++ [(r 0, .inl (k 0, 5, .inl (fun _ => 0))), (r 1, .inl (k 0, 5, .inl (fun _ => 0))), (r 2, .inl (k 0, 5, .inl (fun _ => 0))), (r 3, .inl (k 0, 5, .inl (fun _ => 0))), (r 4, .inl (k 0, 5, .inl (fun _ => 0))), (r 5, .inl (k 0, 5, .inl (fun _ => 0)))]))) E inX0 tyX0 tyX0_ok nmX0 0 rfl rfl 4 (by decide) q_40 rfl rfl hm rfl rfl rfl (Nat.le_of_ble_eq_true rfl) rfl dX0_init_41 ?_
  exact ke_vret E hr hlk ⟨q1, q2, q3, qm, r, rfl⟩ (by decide) (by decide) dX0_init_44
set_option maxRecDepth 100000 in
theorem m_X2_init (l : Launch) (D : va_G) (k : Nat → ClassId) (b : Nat) : mE l yX2_init cX2_init 1 none 6 100 21 777 D (kTy k) [.ref b] [(b, .inr (2, [.int 0, .null, .int 0, .null, .int 0, .int 0, .null, .null, .int 0]))] none (fun W1 => ∃ (a rr : Nat → Nat), a 0 = b ∧ W1 = wMR k a rr (nI 0) (nI 0) 0 (kB false) (nI 0) (fun _ => 0) (fun _ => 0) (nI 0) (fun _ => 0) (fun _ => 0) (fun _ => 0) (fun _ _ => 0) (nI 0) (fun _ => 0) (fun _ => 0) (fun _ => 0) (fun _ => 0) (fun _ => 0) (fun _ => 0) (fun _ => 0)) := by
  refine mE.of (lv' := [(0, .ref b)]) (by decide) (Nat.le_of_ble_eq_true rfl) rfl ?_
  intro p e s m args below meth c E hr hlk hm hA
  refine k_aload_n E 0 rfl rfl dX2_init_0 ?_
  refine k_objInit E q_22 dX2_init_1 (by decide) (Nat.le_of_ble_eq_true rfl) ?_
  refine k_aload_n E 0 rfl rfl dX2_init_4 ?_
  refine k_iconst E (v := 0) (by decide) dX2_init_5 ?_
  refine k_put (ws' := [(b, .inr (2, [.int 0, .null, .int 0, .null, .int 0, .int 0, .null, .null, .int 0]))]) E inX2 tyX2 tyX2_ok nmX2 0 rfl rfl 0 (by decide) q_92 rfl rfl rfl rfl (Nat.le_of_ble_eq_true rfl) rfl dX2_init_6 ?_
  refine k_aload_n E 0 rfl rfl dX2_init_9 ?_
  refine k_new (ci := 0) E hA inX0 tyX0 tyX0_ok q_25 q_26 q_2 rfl [.int 0, .null, .null, .null, .null] (by decide) (by decide) (by decide) dX2_init_10 (fun qF => ?_)
  refine k_dup E rfl dX2_init_13 ?_
  refine k_callIEN [] E hA (m_X0_init l D k qF) cf_X0_init rfl (by decide +kernel) [(b, .inr (2, [.int 0, .null, .int 0, .null, .int 0, .int 0, .null, .null, .int 0]))] [] rfl rfl rfl ⟨by decide, by decide⟩ (Nat.le_of_ble_eq_true rfl) ⟨by decide, by decide⟩ dX2_init_14 (fun W1 hW1 => ?_)
  obtain ⟨f0, f1, f2, f3, rr, rfl⟩ := hW1
  refine k_putF (ws' := ((b, .inr (2, [.int 0, .ref qF, .int 0, .null, .int 0, .int 0, .null, .null, .int 0])) :: (wFA k qF f0 f1 f2 f3 rr 0 (fun _ => 0) (fun _ => 0) (fun _ => 0) (fun _ _ => 0)))) E inX2 tyX2 tyX2_ok nmX2 0 rfl rfl 1 (by decide) q_93 rfl rfl hm rfl rfl rfl (Nat.le_of_ble_eq_true rfl) rfl dX2_init_17 ?_
  refine k_aload_n E 0 rfl rfl dX2_init_20 ?_
  refine k_iconst E (v := 0) (by decide) dX2_init_21 ?_
  refine k_put (ws' := ((b, .inr (2, [.int 0, .ref qF, .int 0, .null, .int 0, .int 0, .null, .null, .int 0])) :: (wFA k qF f0 f1 f2 f3 rr 0 (fun _ => 0) (fun _ => 0) (fun _ => 0) (fun _ _ => 0)))) E inX2 tyX2 tyX2_ok nmX2 0 rfl rfl 2 (by decide) q_94 rfl rfl rfl rfl (Nat.le_of_ble_eq_true rfl) rfl dX2_init_22 ?_
  refine k_aload_n E 0 rfl rfl dX2_init_25 ?_
  refine k_iconst E (v := 4) (by decide) dX2_init_26 ?_
  refine k_newa E hA (ty := .int) rfl q_52 0 rfl (fun _ h => h) (a0 := (4, .inl (fun _ => 0))) (fun _ => rfl) (by decide) (by decide) (by decide) (by decide) (by decide) dX2_init_27 (fun q1 => ?_)
  refine k_putF (ws' := ((b, .inr (2, [.int 0, .ref qF, .int 0, .ref q1, .int 0, .int 0, .null, .null, .int 0])) :: (wFA k qF f0 f1 f2 f3 rr 0 (fun _ => 0) (fun _ => 0) (fun _ => 0) (fun _ _ => 0) ++ [(q1, .inl (k 0, 4, .inl (fun _ => 0)))]))) E inX2 tyX2 tyX2_ok nmX2 0 rfl rfl 3 (by decide) q_95 rfl rfl hm rfl rfl rfl (Nat.le_of_ble_eq_true rfl) rfl dX2_init_29 ?_
  refine k_aload_n E 0 rfl rfl dX2_init_32 ?_
  refine k_iconst E (v := 0) (by decide) dX2_init_33 ?_
  refine k_put (ws' := ((b, .inr (2, [.int 0, .ref qF, .int 0, .ref q1, .int 0, .int 0, .null, .null, .int 0])) :: (wFA k qF f0 f1 f2 f3 rr 0 (fun _ => 0) (fun _ => 0) (fun _ => 0) (fun _ _ => 0) ++ [(q1, .inl (k 0, 4, .inl (fun _ => 0)))]))) E inX2 tyX2 tyX2_ok nmX2 0 rfl rfl 4 (by decide) q_96 rfl rfl rfl rfl (Nat.le_of_ble_eq_true rfl) rfl dX2_init_34 ?_
  refine k_aload_n E 0 rfl rfl dX2_init_37 ?_
  refine k_iconst E (v := 0) (by decide) dX2_init_38 ?_
  refine k_put (ws' := ((b, .inr (2, [.int 0, .ref qF, .int 0, .ref q1, .int 0, .int 0, .null, .null, .int 0])) :: (wFA k qF f0 f1 f2 f3 rr 0 (fun _ => 0) (fun _ => 0) (fun _ => 0) (fun _ _ => 0) ++ [(q1, .inl (k 0, 4, .inl (fun _ => 0)))]))) E inX2 tyX2 tyX2_ok nmX2 0 rfl rfl 5 (by decide) q_97 rfl rfl rfl rfl (Nat.le_of_ble_eq_true rfl) rfl dX2_init_39 ?_
  refine k_aload_n E 0 rfl rfl dX2_init_42 ?_
  refine k_bipush E (v := 6) (by decide) dX2_init_43 ?_
  refine k_newa E hA (ty := .boolean) rfl q_90 2 rfl (fun _ h => h) (a0 := (6, .inl (fun _ => 0))) (fun _ => rfl) (by decide) (by decide) (by decide) (by decide) (by decide) dX2_init_45 (fun q2 => ?_)
  refine k_putF (ws' := ((b, .inr (2, [.int 0, .ref qF, .int 0, .ref q1, .int 0, .int 0, .ref q2, .null, .int 0])) :: (wFA k qF f0 f1 f2 f3 rr 0 (fun _ => 0) (fun _ => 0) (fun _ => 0) (fun _ _ => 0) ++ [(q1, .inl (k 0, 4, .inl (fun _ => 0)))] ++ [(q2, .inl (k 2, 6, .inl (fun _ => 0)))]))) E inX2 tyX2 tyX2_ok nmX2 0 rfl rfl 6 (by decide) q_98 rfl rfl hm rfl rfl rfl (Nat.le_of_ble_eq_true rfl) rfl dX2_init_47 ?_
  refine k_aload_n E 0 rfl rfl dX2_init_50 ?_
  refine k_new (ci := 1) E hA inX1 tyX1 tyX1_ok q_53 q_54 q_3 rfl [.int 0, .null, .null, .null, .null, .null, .null, .null] (by decide) (by decide) (by decide) dX2_init_51 (fun qS => ?_)
  refine k_dup E rfl dX2_init_54 ?_
  refine k_callIEN [] E hA (m_X1_init l D k qS) cf_X1_init rfl (by decide +kernel) ((b, .inr (2, [.int 0, .ref qF, .int 0, .ref q1, .int 0, .int 0, .ref q2, .null, .int 0])) :: (wFA k qF f0 f1 f2 f3 rr 0 (fun _ => 0) (fun _ => 0) (fun _ => 0) (fun _ _ => 0) ++ [(q1, .inl (k 0, 4, .inl (fun _ => 0)))] ++ [(q2, .inl (k 2, 6, .inl (fun _ => 0)))])) [] rfl rfl rfl ⟨by decide, by decide⟩ (Nat.le_of_ble_eq_true rfl) ⟨by decide, by decide⟩ dX2_init_55 (fun W1 hW1 => ?_)
  obtain ⟨s0, s1, s2, s3, s4, s5, s6, rfl⟩ := hW1
  refine k_putF (ws' := ((b, .inr (2, [.int 0, .ref qF, .int 0, .ref q1, .int 0, .int 0, .ref q2, .ref qS, .int 0])) :: (wFA k qF f0 f1 f2 f3 rr 0 (fun _ => 0) (fun _ => 0) (fun _ => 0) (fun _ _ => 0) ++ [(q1, .inl (k 0, 4, .inl (fun _ => 0)))] ++ [(q2, .inl (k 2, 6, .inl (fun _ => 0)))] ++ wSA k qS s0 s1 s2 s3 s4 s5 s6 0 (fun _ => 0) (fun _ => 0) (fun _ => 0) (fun _ => 0) (fun _ => 0) (fun _ => 0) (fun _ => 0)))) E inX2 tyX2 tyX2_ok nmX2 0 rfl rfl 7 (by decide) q_99 rfl rfl hm rfl rfl rfl (Nat.le_of_ble_eq_true rfl) rfl dX2_init_58 ?_
  refine k_aload_n E 0 rfl rfl dX2_init_61 ?_
  refine k_iconst E (v := 0) (by decide) dX2_init_62 ?_
  refine k_put (ws' := ((b, .inr (2, [.int 0, .ref qF, .int 0, .ref q1, .int 0, .int 0, .ref q2, .ref qS, .int 0])) :: (wFA k qF f0 f1 f2 f3 rr 0 (fun _ => 0) (fun _ => 0) (fun _ => 0) (fun _ _ => 0) ++ [(q1, .inl (k 0, 4, .inl (fun _ => 0)))] ++ [(q2, .inl (k 2, 6, .inl (fun _ => 0)))] ++ wSA k qS s0 s1 s2 s3 s4 s5 s6 0 (fun _ => 0) (fun _ => 0) (fun _ => 0) (fun _ => 0) (fun _ => 0) (fun _ => 0) (fun _ => 0)))) E inX2 tyX2 tyX2_ok nmX2 0 rfl rfl 8 (by decide) q_100 rfl rfl rfl rfl (Nat.le_of_ble_eq_true rfl) rfl dX2_init_63 ?_
  exact ke_vret E hr hlk ⟨fun i => [b, qF, f0, f1, f2, f3, q1, q2, qS, s0, s1, s2, s3, s4, s5, s6].getD i 0, rr, rfl, rfl⟩ (by decide) (by decide) dX2_init_66
set_option maxRecDepth 100000 in
theorem m_X3_init (l : Launch) (D : va_G) (k : Nat → ClassId) (b : Nat) : mE l yX3_init cX3_init 1 none 5 70 12 466 D (kTy k) [.ref b] [(b, .inr (3, [.int 0, .null, .null, .null, .null, .int 0, .null, .null, .null, .int 0, .int 0, .null, .int 0, .int 0, .null, .null, .null, .null, .int 0, .int 0, .int 0]))] none (fun W1 => ∃ (a : Nat → Nat), a 0 = b ∧ W1 = wMO k a (nI 0) (fun _ => 0) (fun _ => 0) (fun _ => 0) (fun _ => 0) (nI 0) (fun _ => 0) (fun _ => 0) (fun _ => 0) (nI 0) (kB false) (fun _ => 0) 0 0 (fun _ => 0) (fun _ => 0) (fun _ => 0) (fun _ => 0) (nI 0) (nI 0) 0) := by
  refine mE.of (lv' := [(0, .ref b)]) (by decide) (Nat.le_of_ble_eq_true rfl) rfl ?_
  intro p e s m args below meth c E hr hlk hm hA
  refine k_aload_n E 0 rfl rfl dX3_init_0 ?_
  refine k_objInit E q_674 dX3_init_1 (by decide) (Nat.le_of_ble_eq_true rfl) ?_
  refine k_aload_n E 0 rfl rfl dX3_init_4 ?_
  refine k_bipush E (v := 6) (by decide) dX3_init_5 ?_
  refine k_newa E hA (ty := .int) rfl q_52 0 rfl (fun _ h => h) (a0 := (6, .inl (fun _ => 0))) (fun _ => rfl) (by decide) (by decide) (by decide) (by decide) (by decide) dX3_init_7 (fun q1 => ?_)
  refine k_putF (ws' := ((b, .inr (3, [.int 0, .ref q1, .null, .null, .null, .int 0, .null, .null, .null, .int 0, .int 0, .null, .int 0, .int 0, .null, .null, .null, .null, .int 0, .int 0, .int 0])) :: ([(q1, .inl (k 0, 6, .inl (fun _ => 0)))]))) E inX3 tyX3 tyX3_ok nmX3 0 rfl rfl 1 (by decide) q_676 rfl rfl hm rfl rfl rfl (Nat.le_of_ble_eq_true rfl) rfl dX3_init_9 ?_
  refine k_aload_n E 0 rfl rfl dX3_init_12 ?_
  refine k_bipush E (v := 6) (by decide) dX3_init_13 ?_
  refine k_newa E hA (ty := .int) rfl q_52 0 rfl (fun _ h => h) (a0 := (6, .inl (fun _ => 0))) (fun _ => rfl) (by decide) (by decide) (by decide) (by decide) (by decide) dX3_init_15 (fun q2 => ?_)
  refine k_putF (ws' := ((b, .inr (3, [.int 0, .ref q1, .ref q2, .null, .null, .int 0, .null, .null, .null, .int 0, .int 0, .null, .int 0, .int 0, .null, .null, .null, .null, .int 0, .int 0, .int 0])) :: ([(q1, .inl (k 0, 6, .inl (fun _ => 0)))] ++ [(q2, .inl (k 0, 6, .inl (fun _ => 0)))]))) E inX3 tyX3 tyX3_ok nmX3 0 rfl rfl 2 (by decide) q_677 rfl rfl hm rfl rfl rfl (Nat.le_of_ble_eq_true rfl) rfl dX3_init_17 ?_
  refine k_aload_n E 0 rfl rfl dX3_init_20 ?_
  refine k_bipush E (v := 30) (by decide) dX3_init_21 ?_
  refine k_newa E hA (ty := .int) rfl q_52 0 rfl (fun _ h => h) (a0 := (30, .inl (fun _ => 0))) (fun _ => rfl) (by decide) (by decide) (by decide) (by decide) (by decide) dX3_init_23 (fun q3 => ?_)
  refine k_putF (ws' := ((b, .inr (3, [.int 0, .ref q1, .ref q2, .ref q3, .null, .int 0, .null, .null, .null, .int 0, .int 0, .null, .int 0, .int 0, .null, .null, .null, .null, .int 0, .int 0, .int 0])) :: ([(q1, .inl (k 0, 6, .inl (fun _ => 0)))] ++ [(q2, .inl (k 0, 6, .inl (fun _ => 0)))] ++ [(q3, .inl (k 0, 30, .inl (fun _ => 0)))]))) E inX3 tyX3 tyX3_ok nmX3 0 rfl rfl 3 (by decide) q_678 rfl rfl hm rfl rfl rfl (Nat.le_of_ble_eq_true rfl) rfl dX3_init_25 ?_
  refine k_aload_n E 0 rfl rfl dX3_init_28 ?_
  refine k_bipush E (v := 6) (by decide) dX3_init_29 ?_
  refine k_newa E hA (ty := .int) rfl q_52 0 rfl (fun _ h => h) (a0 := (6, .inl (fun _ => 0))) (fun _ => rfl) (by decide) (by decide) (by decide) (by decide) (by decide) dX3_init_31 (fun q4 => ?_)
  refine k_putF (ws' := ((b, .inr (3, [.int 0, .ref q1, .ref q2, .ref q3, .ref q4, .int 0, .null, .null, .null, .int 0, .int 0, .null, .int 0, .int 0, .null, .null, .null, .null, .int 0, .int 0, .int 0])) :: ([(q1, .inl (k 0, 6, .inl (fun _ => 0)))] ++ [(q2, .inl (k 0, 6, .inl (fun _ => 0)))] ++ [(q3, .inl (k 0, 30, .inl (fun _ => 0)))] ++ [(q4, .inl (k 0, 6, .inl (fun _ => 0)))]))) E inX3 tyX3 tyX3_ok nmX3 0 rfl rfl 4 (by decide) q_679 rfl rfl hm rfl rfl rfl (Nat.le_of_ble_eq_true rfl) rfl dX3_init_33 ?_
  refine k_aload_n E 0 rfl rfl dX3_init_36 ?_
  refine k_iconst E (v := 4) (by decide) dX3_init_37 ?_
  refine k_newa E hA (ty := .int) rfl q_52 0 rfl (fun _ h => h) (a0 := (4, .inl (fun _ => 0))) (fun _ => rfl) (by decide) (by decide) (by decide) (by decide) (by decide) dX3_init_38 (fun q5 => ?_)
  refine k_putF (ws' := ((b, .inr (3, [.int 0, .ref q1, .ref q2, .ref q3, .ref q4, .int 0, .ref q5, .null, .null, .int 0, .int 0, .null, .int 0, .int 0, .null, .null, .null, .null, .int 0, .int 0, .int 0])) :: ([(q1, .inl (k 0, 6, .inl (fun _ => 0)))] ++ [(q2, .inl (k 0, 6, .inl (fun _ => 0)))] ++ [(q3, .inl (k 0, 30, .inl (fun _ => 0)))] ++ [(q4, .inl (k 0, 6, .inl (fun _ => 0)))] ++ [(q5, .inl (k 0, 4, .inl (fun _ => 0)))]))) E inX3 tyX3 tyX3_ok nmX3 0 rfl rfl 6 (by decide) q_681 rfl rfl hm rfl rfl rfl (Nat.le_of_ble_eq_true rfl) rfl dX3_init_40 ?_
  refine k_aload_n E 0 rfl rfl dX3_init_43 ?_
  refine k_iconst E (v := 4) (by decide) dX3_init_44 ?_
  refine k_newa E hA (ty := .int) rfl q_52 0 rfl (fun _ h => h) (a0 := (4, .inl (fun _ => 0))) (fun _ => rfl) (by decide) (by decide) (by decide) (by decide) (by decide) dX3_init_45 (fun q6 => ?_)
  refine k_putF (ws' := ((b, .inr (3, [.int 0, .ref q1, .ref q2, .ref q3, .ref q4, .int 0, .ref q5, .ref q6, .null, .int 0, .int 0, .null, .int 0, .int 0, .null, .null, .null, .null, .int 0, .int 0, .int 0])) :: ([(q1, .inl (k 0, 6, .inl (fun _ => 0)))] ++ [(q2, .inl (k 0, 6, .inl (fun _ => 0)))] ++ [(q3, .inl (k 0, 30, .inl (fun _ => 0)))] ++ [(q4, .inl (k 0, 6, .inl (fun _ => 0)))] ++ [(q5, .inl (k 0, 4, .inl (fun _ => 0)))] ++ [(q6, .inl (k 0, 4, .inl (fun _ => 0)))]))) E inX3 tyX3 tyX3_ok nmX3 0 rfl rfl 7 (by decide) q_682 rfl rfl hm rfl rfl rfl (Nat.le_of_ble_eq_true rfl) rfl dX3_init_47 ?_
  refine k_aload_n E 0 rfl rfl dX3_init_50 ?_
  refine k_iconst E (v := 4) (by decide) dX3_init_51 ?_
  refine k_newa E hA (ty := .int) rfl q_52 0 rfl (fun _ h => h) (a0 := (4, .inl (fun _ => 0))) (fun _ => rfl) (by decide) (by decide) (by decide) (by decide) (by decide) dX3_init_52 (fun q7 => ?_)
  refine k_putF (ws' := ((b, .inr (3, [.int 0, .ref q1, .ref q2, .ref q3, .ref q4, .int 0, .ref q5, .ref q6, .ref q7, .int 0, .int 0, .null, .int 0, .int 0, .null, .null, .null, .null, .int 0, .int 0, .int 0])) :: ([(q1, .inl (k 0, 6, .inl (fun _ => 0)))] ++ [(q2, .inl (k 0, 6, .inl (fun _ => 0)))] ++ [(q3, .inl (k 0, 30, .inl (fun _ => 0)))] ++ [(q4, .inl (k 0, 6, .inl (fun _ => 0)))] ++ [(q5, .inl (k 0, 4, .inl (fun _ => 0)))] ++ [(q6, .inl (k 0, 4, .inl (fun _ => 0)))] ++ [(q7, .inl (k 0, 4, .inl (fun _ => 0)))]))) E inX3 tyX3 tyX3_ok nmX3 0 rfl rfl 8 (by decide) q_683 rfl rfl hm rfl rfl rfl (Nat.le_of_ble_eq_true rfl) rfl dX3_init_54 ?_
  refine k_aload_n E 0 rfl rfl dX3_init_57 ?_
  refine k_bipush E (v := 6) (by decide) dX3_init_58 ?_
  refine k_newa E hA (ty := .boolean) rfl q_90 2 rfl (fun _ h => h) (a0 := (6, .inl (fun _ => 0))) (fun _ => rfl) (by decide) (by decide) (by decide) (by decide) (by decide) dX3_init_60 (fun q8 => ?_)
  refine k_putF (ws' := ((b, .inr (3, [.int 0, .ref q1, .ref q2, .ref q3, .ref q4, .int 0, .ref q5, .ref q6, .ref q7, .int 0, .int 0, .ref q8, .int 0, .int 0, .null, .null, .null, .null, .int 0, .int 0, .int 0])) :: ([(q1, .inl (k 0, 6, .inl (fun _ => 0)))] ++ [(q2, .inl (k 0, 6, .inl (fun _ => 0)))] ++ [(q3, .inl (k 0, 30, .inl (fun _ => 0)))] ++ [(q4, .inl (k 0, 6, .inl (fun _ => 0)))] ++ [(q5, .inl (k 0, 4, .inl (fun _ => 0)))] ++ [(q6, .inl (k 0, 4, .inl (fun _ => 0)))] ++ [(q7, .inl (k 0, 4, .inl (fun _ => 0)))] ++ [(q8, .inl (k 2, 6, .inl (fun _ => 0)))]))) E inX3 tyX3 tyX3_ok nmX3 0 rfl rfl 11 (by decide) q_686 rfl rfl hm rfl rfl rfl (Nat.le_of_ble_eq_true rfl) rfl dX3_init_62 ?_
  refine k_aload_n E 0 rfl rfl dX3_init_65 ?_
  refine k_bipush E (v := 100) (by decide) dX3_init_66 ?_
  refine k_newa E hA (ty := .int) rfl q_52 0 rfl (fun _ h => h) (a0 := (100, .inl (fun _ => 0))) (fun _ => rfl) (by decide) (by decide) (by decide) (by decide) (by decide) dX3_init_68 (fun q9 => ?_)
  refine k_putF (ws' := ((b, .inr (3, [.int 0, .ref q1, .ref q2, .ref q3, .ref q4, .int 0, .ref q5, .ref q6, .ref q7, .int 0, .int 0, .ref q8, .int 0, .int 0, .ref q9, .null, .null, .null, .int 0, .int 0, .int 0])) :: ([(q1, .inl (k 0, 6, .inl (fun _ => 0)))] ++ [(q2, .inl (k 0, 6, .inl (fun _ => 0)))] ++ [(q3, .inl (k 0, 30, .inl (fun _ => 0)))] ++ [(q4, .inl (k 0, 6, .inl (fun _ => 0)))] ++ [(q5, .inl (k 0, 4, .inl (fun _ => 0)))] ++ [(q6, .inl (k 0, 4, .inl (fun _ => 0)))] ++ [(q7, .inl (k 0, 4, .inl (fun _ => 0)))] ++ [(q8, .inl (k 2, 6, .inl (fun _ => 0)))] ++ [(q9, .inl (k 0, 100, .inl (fun _ => 0)))]))) E inX3 tyX3 tyX3_ok nmX3 0 rfl rfl 14 (by decide) q_689 rfl rfl hm rfl rfl rfl (Nat.le_of_ble_eq_true rfl) rfl dX3_init_70 ?_
  refine k_aload_n E 0 rfl rfl dX3_init_73 ?_
  refine k_bipush E (v := 100) (by decide) dX3_init_74 ?_
  refine k_newa E hA (ty := .int) rfl q_52 0 rfl (fun _ h => h) (a0 := (100, .inl (fun _ => 0))) (fun _ => rfl) (by decide) (by decide) (by decide) (by decide) (by decide) dX3_init_76 (fun q10 => ?_)
  refine k_putF (ws' := ((b, .inr (3, [.int 0, .ref q1, .ref q2, .ref q3, .ref q4, .int 0, .ref q5, .ref q6, .ref q7, .int 0, .int 0, .ref q8, .int 0, .int 0, .ref q9, .ref q10, .null, .null, .int 0, .int 0, .int 0])) :: ([(q1, .inl (k 0, 6, .inl (fun _ => 0)))] ++ [(q2, .inl (k 0, 6, .inl (fun _ => 0)))] ++ [(q3, .inl (k 0, 30, .inl (fun _ => 0)))] ++ [(q4, .inl (k 0, 6, .inl (fun _ => 0)))] ++ [(q5, .inl (k 0, 4, .inl (fun _ => 0)))] ++ [(q6, .inl (k 0, 4, .inl (fun _ => 0)))] ++ [(q7, .inl (k 0, 4, .inl (fun _ => 0)))] ++ [(q8, .inl (k 2, 6, .inl (fun _ => 0)))] ++ [(q9, .inl (k 0, 100, .inl (fun _ => 0)))] ++ [(q10, .inl (k 0, 100, .inl (fun _ => 0)))]))) E inX3 tyX3 tyX3_ok nmX3 0 rfl rfl 15 (by decide) q_690 rfl rfl hm rfl rfl rfl (Nat.le_of_ble_eq_true rfl) rfl dX3_init_78 ?_
  refine k_aload_n E 0 rfl rfl dX3_init_81 ?_
  refine k_bipush E (v := 100) (by decide) dX3_init_82 ?_
  refine k_newa E hA (ty := .char) rfl q_91 1 rfl (fun _ h => h) (a0 := (100, .inl (fun _ => 0))) (fun _ => rfl) (by decide) (by decide) (by decide) (by decide) (by decide) dX3_init_84 (fun q11 => ?_)
  refine k_putF (ws' := ((b, .inr (3, [.int 0, .ref q1, .ref q2, .ref q3, .ref q4, .int 0, .ref q5, .ref q6, .ref q7, .int 0, .int 0, .ref q8, .int 0, .int 0, .ref q9, .ref q10, .ref q11, .null, .int 0, .int 0, .int 0])) :: ([(q1, .inl (k 0, 6, .inl (fun _ => 0)))] ++ [(q2, .inl (k 0, 6, .inl (fun _ => 0)))] ++ [(q3, .inl (k 0, 30, .inl (fun _ => 0)))] ++ [(q4, .inl (k 0, 6, .inl (fun _ => 0)))] ++ [(q5, .inl (k 0, 4, .inl (fun _ => 0)))] ++ [(q6, .inl (k 0, 4, .inl (fun _ => 0)))] ++ [(q7, .inl (k 0, 4, .inl (fun _ => 0)))] ++ [(q8, .inl (k 2, 6, .inl (fun _ => 0)))] ++ [(q9, .inl (k 0, 100, .inl (fun _ => 0)))] ++ [(q10, .inl (k 0, 100, .inl (fun _ => 0)))] ++ [(q11, .inl (k 1, 100, .inl (fun _ => 0)))]))) E inX3 tyX3 tyX3_ok nmX3 0 rfl rfl 16 (by decide) q_691 rfl rfl hm rfl rfl rfl (Nat.le_of_ble_eq_true rfl) rfl dX3_init_86 ?_
  refine k_aload_n E 0 rfl rfl dX3_init_89 ?_
  refine k_bipush E (v := 100) (by decide) dX3_init_90 ?_
  refine k_newa E hA (ty := .int) rfl q_52 0 rfl (fun _ h => h) (a0 := (100, .inl (fun _ => 0))) (fun _ => rfl) (by decide) (by decide) (by decide) (by decide) (by decide) dX3_init_92 (fun q12 => ?_)
  refine k_putF (ws' := ((b, .inr (3, [.int 0, .ref q1, .ref q2, .ref q3, .ref q4, .int 0, .ref q5, .ref q6, .ref q7, .int 0, .int 0, .ref q8, .int 0, .int 0, .ref q9, .ref q10, .ref q11, .ref q12, .int 0, .int 0, .int 0])) :: ([(q1, .inl (k 0, 6, .inl (fun _ => 0)))] ++ [(q2, .inl (k 0, 6, .inl (fun _ => 0)))] ++ [(q3, .inl (k 0, 30, .inl (fun _ => 0)))] ++ [(q4, .inl (k 0, 6, .inl (fun _ => 0)))] ++ [(q5, .inl (k 0, 4, .inl (fun _ => 0)))] ++ [(q6, .inl (k 0, 4, .inl (fun _ => 0)))] ++ [(q7, .inl (k 0, 4, .inl (fun _ => 0)))] ++ [(q8, .inl (k 2, 6, .inl (fun _ => 0)))] ++ [(q9, .inl (k 0, 100, .inl (fun _ => 0)))] ++ [(q10, .inl (k 0, 100, .inl (fun _ => 0)))] ++ [(q11, .inl (k 1, 100, .inl (fun _ => 0)))] ++ [(q12, .inl (k 0, 100, .inl (fun _ => 0)))]))) E inX3 tyX3 tyX3_ok nmX3 0 rfl rfl 17 (by decide) q_692 rfl rfl hm rfl rfl rfl (Nat.le_of_ble_eq_true rfl) rfl dX3_init_94 ?_
  exact ke_vret E hr hlk ⟨fun i => [b, q1, q2, q3, q4, q5, q6, q7, q8, q9, q10, q11, q12].getD i 0, rfl, rfl⟩ (by decide) (by decide) dX3_init_97
