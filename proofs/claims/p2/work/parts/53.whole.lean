set_option maxHeartbeats 4000000 in
set_option maxRecDepth 100000 in
theorem whole_start {p : Program} {e : Env} {s : State} {m : MethodId} {below : List Frame} {meth : Method} {c : Code} (l : Launch) {b L : Nat} {xs : Nat → Int32} (hL : L ≤ 2048) (C0 : lw_At p s m meth c b L xs) : W p l e room_1 s m #[Value.ref b] below meth c s.heap [] 0 0 (lw_Z below #[Value.ref b] s) (entryFrame m ([Value.ref b] : List Value).toArray 4) := by
  obtain ⟨hx, hb, hr, hml, hown, hts, hX, hbl, hlocks, hgv⟩ := id C0
  have ht : ∀ w ∈ TT, w.before #[Value.ref b] s = true := fun w h9 => hts w (tt_tbl h9)
  obtain ⟨k, hE⟩ := ke_start hts hgv
  have hA : ∀ q : Nat, s.heap.size ≤ q → (fun q : Nat => s.heap.size ≤ q) q := fun _ h9 => h9
  have hbA : ¬ (fun q : Nat => s.heap.size ≤ q) b := Nat.not_le.mpr hbl
  obtain ⟨c0, iS0, hKn0⟩ := u_known (C := "SieveDesk") (T := F_S) (N := 5) (n := 5) ht i_S (ht _ k_89)
  obtain ⟨c1, iS1, hKn1⟩ := u_known (C := "SieveDesk$Tokens") (T := F_T) (N := 9) (n := 9) ht i_T (ht _ k_97)
  obtain ⟨c2, iS2, hKn2⟩ := u_known (C := "SieveDesk$Quoted") (T := F_Q) (N := 2) (n := 2) ht i_Q (ht _ k_105)
  obtain ⟨c3, iS3, hKn3⟩ := u_known (C := "SieveDesk$Grammar") (T := F_G) (N := 14) (n := 14) ht i_G (ht _ k_153)
  obtain ⟨c4, iS4, hKn4⟩ := u_known (C := "SieveDeskModel") (T := F_M) (N := 19) (n := 19) ht i_M (ht _ k_558)
  obtain ⟨dC, dI, hKc⟩ : ∃ (dC : Nat → ClassId) (dI : Nat → Nat → Nat), ∀ (k : Nat) (q : vw_C), cls[k]? = some q → u_Kn s q.1 q.2.1 q.2.2 (dC k) (dI k) := by
    refine ⟨fun k => match k with | 0 => c0 | 1 => c1 | 2 => c2 | 3 => c3 | _ => c4, fun k => match k with | 0 => iS0 | 1 => iS1 | 2 => iS2 | 3 => iS3 | _ => iS4, ?_⟩
    intro k q hq
    match k, hq with
    | 0, hq => cases hq; exact hKn0
    | 1, hq => cases hq; exact hKn1
    | 2, hq => cases hq; exact hKn2
    | 3, hq => cases hq; exact hKn3
    | 4, hq => cases hq; exact hKn4
    | k + 5, hq => simp [cls] at hq
  have hS : va_S (fun q : Nat => s.heap.size ≤ q) s.heap s.heap [] := va_S.rf
  have hK : va_K (dC, dI) cls [] s := ⟨hKc, fun k q h9 => by simp at h9⟩
  have hP : va_P (dC, dI) cls [] s.heap := fun k q h9 => by simp at h9
  have hD : va_D (fun q : Nat => s.heap.size ≤ q) [] := ⟨fun i j p q h9 => by simp at h9, fun k q h9 => by simp at h9⟩
  have hl := lv_entry ([.ref b]) (n := 4) (Nat.le_of_ble_eq_true rfl)
  rw [lg_entry_eq]
  generalize (lg_sl ([.ref b]) ++ List.replicate (4 - (lg_sl ([.ref b])).length) Slot.unset).toArray = ls at hl ⊢
  have hl : lv_has ls 4 [(0, .ref b)] := hl
  refine va_new (ci := 0) (fs := [.null, .null, .null, .int 0, .int 0]) (C := "SieveDesk") (T := F_S) (N := 5) hx hb ht i_S ty_S ty_S_ok hown (ht _ k_88) (ht _ k_89) (ht _ k_74) hK hP hD hS hA rfl (by decide +kernel) (Nat.le_of_ble_eq_true rfl) (Nat.le_of_ble_eq_true rfl) d_L_law_0 (fun q_1 H hP hD hS => ?_)
  have hP : va_P (dC, dI) cls [(q_1, .inr (0, [.null, .null, .null, .int 0, .int 0]))] H := hP
  have hD : va_D (fun q : Nat => s.heap.size ≤ q) [(q_1, .inr (0, [.null, .null, .null, .int 0, .int 0]))] := hD
  refine W.widen (k := 1) (n := 5) (by decide) (by decide) ?_
  refine lv_dup hx hb d_L_law_3 rfl ?_
  have hPc := hP.sub (ws' := [(q_1, .inr (0, [.null, .null, .null, .int 0, .int 0]))]) [0] rfl
  have hDc := hD.sub (ws' := [(q_1, .inr (0, [.null, .null, .null, .int 0, .int 0]))]) [0] (by decide) rfl
  have hKc := hK.sub (tys' := []) [] rfl
  have hFc := va_free (wc := [(q_1, .inr (0, [.null, .null, .null, .int 0, .int 0]))]) hD hS hA [0] rfl
  refine va_callv (va_runI (As := []) (rest := [.ref q_1]) ⟨hx, hb, hml, hown, ht⟩ (c_S_init l dC dI k q_1 H.size) (cwI 0 ht (g_C k_92) rfl rfl rfl (ht _ k_74) (ht _ k_90) (ht _ k_91) rfl (by decide +kernel) ⟨(Nat.le_of_ble_eq_true rfl), (Nat.le_of_ble_eq_true rfl)⟩) ⟨fb_X, pre_X hE hS hFc hPc hKc hDc⟩ rfl rfl hl.1 rfl (lv_room (Nat.le_of_ble_eq_true rfl)) d_L_law_4 ⟨(Nat.le_of_ble_eq_true rfl), (Nat.le_of_ble_eq_true rfl)⟩) hS (fun q _ h9 => hFc q h9) hFc (fun u t H1 locs het hvm hw hB hz1 hk1 hS => ?_)
  obtain ⟨h, g⟩ := u
  obtain ⟨hP1, hK1, hD1⟩ := hB
  rw [het] at hP1
  have hK1 := va_K.moved hvm.symm hK1
  obtain rfl : h 0 = q_1 := hw
  obtain ⟨hP, hD⟩ := va_join (wr := []) (w1 := (WE h g 0 (-1) 0 0 0 0 0 0 0 (.ref (k 0)) (.ref (k 0)) 0 0 0 0 0 0 0 (fun _ => 0) (fun _ => 0) (fun _ => 0) (fun _ => none) (fun _ => 0) (fun _ => 0) (fun _ => 0))) hP hD [0] [] rfl rfl (by decide) (by decide) hk1 hFc hP1 hD1
  have hK := hK.app hK1
  generalize H1 = H at hP hS ⊢
  have hP : va_P (dC, dI) cls (WE h g 0 (-1) 0 0 0 0 0 0 0 (.ref (k 0)) (.ref (k 0)) 0 0 0 0 0 0 0 (fun _ => 0) (fun _ => 0) (fun _ => 0) (fun _ => none) (fun _ => 0) (fun _ => 0) (fun _ => 0)) H := hP
  have hD : va_D (fun q : Nat => s.heap.size ≤ q) (WE h g 0 (-1) 0 0 0 0 0 0 0 (.ref (k 0)) (.ref (k 0)) 0 0 0 0 0 0 0 (fun _ => 0) (fun _ => 0) (fun _ => 0) (fun _ => none) (fun _ => 0) (fun _ => 0) (fun _ => 0)) := hD
  have hK : va_K (dC, dI) cls (TE g) s := hK
  refine W.widen (k := 11) (n := 2434) (by decide) (by decide) ?_
  refine lv_astore_n (lv' := [(1, .ref (h 0)), (0, .ref b)]) hx hb d_L_law_7 rfl hl (by decide) rfl (fun ls hl => ?_)
  refine va_new (ci := 4) (fs := [.null, .null, .null, .int 0, .int 0, .int 0, .int 0, .int 0, .null, .null, .int 0, .int 0, .int 0, .int 0, .int 0, .int 0, .int 0, .int 0, .null]) (C := "SieveDeskModel") (T := F_M) (N := 19) hx hb ht i_M ty_M ty_M_ok hown (ht _ k_557) (ht _ k_558) (ht _ k_80) hK hP hD hS hA rfl (by decide +kernel) (Nat.le_of_ble_eq_true rfl) (Nat.le_of_ble_eq_true rfl) d_L_law_8 (fun q_9 H hP hD hS => ?_)
  have hP : va_P (dC, dI) cls ((WE h g 0 (-1) 0 0 0 0 0 0 0 (.ref (k 0)) (.ref (k 0)) 0 0 0 0 0 0 0 (fun _ => 0) (fun _ => 0) (fun _ => 0) (fun _ => none) (fun _ => 0) (fun _ => 0) (fun _ => 0)) ++ [(q_9, .inr (4, [.null, .null, .null, .int 0, .int 0, .int 0, .int 0, .int 0, .null, .null, .int 0, .int 0, .int 0, .int 0, .int 0, .int 0, .int 0, .int 0, .null]))]) H := hP
  have hD : va_D (fun q : Nat => s.heap.size ≤ q) ((WE h g 0 (-1) 0 0 0 0 0 0 0 (.ref (k 0)) (.ref (k 0)) 0 0 0 0 0 0 0 (fun _ => 0) (fun _ => 0) (fun _ => 0) (fun _ => none) (fun _ => 0) (fun _ => 0) (fun _ => 0)) ++ [(q_9, .inr (4, [.null, .null, .null, .int 0, .int 0, .int 0, .int 0, .int 0, .null, .null, .int 0, .int 0, .int 0, .int 0, .int 0, .int 0, .int 0, .int 0, .null]))]) := hD
  refine W.widen (k := 12) (n := 2453) (by decide) (by decide) ?_
  refine lv_dup hx hb d_L_law_11 rfl ?_
  have hPc := hP.sub (ws' := [(q_9, .inr (4, [.null, .null, .null, .int 0, .int 0, .int 0, .int 0, .int 0, .null, .null, .int 0, .int 0, .int 0, .int 0, .int 0, .int 0, .int 0, .int 0, .null]))]) [11] rfl
  have hDc := hD.sub (ws' := [(q_9, .inr (4, [.null, .null, .null, .int 0, .int 0, .int 0, .int 0, .int 0, .null, .null, .int 0, .int 0, .int 0, .int 0, .int 0, .int 0, .int 0, .int 0, .null]))]) [11] (by decide) rfl
  have hKc := hK.sub (tys' := []) [] rfl
  have hFc := va_free (wc := [(q_9, .inr (4, [.null, .null, .null, .int 0, .int 0, .int 0, .int 0, .int 0, .null, .null, .int 0, .int 0, .int 0, .int 0, .int 0, .int 0, .int 0, .int 0, .null]))]) hD hS hA [11] rfl
  refine va_callv (va_runI (As := []) (rest := [.ref q_9]) ⟨hx, hb, hml, hown, ht⟩ (c_M_init l dC dI k q_9 H.size) (cwI 0 ht (g_C k_561) rfl rfl rfl (ht _ k_80) (ht _ k_559) (ht _ k_560) rfl (by decide +kernel) ⟨(Nat.le_of_ble_eq_true rfl), (Nat.le_of_ble_eq_true rfl)⟩) ⟨fb_X, pre_X hE hS hFc hPc hKc hDc⟩ rfl rfl hl.1 rfl (lv_room (Nat.le_of_ble_eq_true rfl)) d_L_law_12 ⟨(Nat.le_of_ble_eq_true rfl), (Nat.le_of_ble_eq_true rfl)⟩) hS (fun q _ h9 => hFc q h9) hFc (fun u t H1 locs het hvm hw hB hz1 hk1 hS => ?_)
  obtain ⟨⟨h2, g2⟩, ⟨wo, wz⟩⟩ := u
  obtain ⟨hP1, hK1, hD1⟩ := hB
  rw [het] at hP1
  have hK1 := va_K.moved hvm.symm hK1
  obtain rfl : h2 0 = q_9 := hw
  obtain ⟨hP, hD⟩ := va_join (wr := (WE h g 0 (-1) 0 0 0 0 0 0 0 (.ref (k 0)) (.ref (k 0)) 0 0 0 0 0 0 0 (fun _ => 0) (fun _ => 0) (fun _ => 0) (fun _ => none) (fun _ => 0) (fun _ => 0) (fun _ => 0))) (w1 := (ME h2 g2 0 0 0 0 0 (-1) 0 0 0 0 0 0 0 wo wz (fun _ => 0) (fun _ => 0) (fun _ => 0) (fun _ => 0))) hP hD [11] [0, 1, 2, 3, 4, 5, 6, 7, 8, 9, 10] rfl rfl (by decide) (by decide) hk1 hFc hP1 hD1
  have hK := hK.app hK1
  generalize H1 = H at hP hS ⊢
  have hP : va_P (dC, dI) cls ((WE h g 0 (-1) 0 0 0 0 0 0 0 (.ref (k 0)) (.ref (k 0)) 0 0 0 0 0 0 0 (fun _ => 0) (fun _ => 0) (fun _ => 0) (fun _ => none) (fun _ => 0) (fun _ => 0) (fun _ => 0)) ++ (ME h2 g2 0 0 0 0 0 (-1) 0 0 0 0 0 0 0 wo wz (fun _ => 0) (fun _ => 0) (fun _ => 0) (fun _ => 0))) H := hP
  have hD : va_D (fun q : Nat => s.heap.size ≤ q) ((WE h g 0 (-1) 0 0 0 0 0 0 0 (.ref (k 0)) (.ref (k 0)) 0 0 0 0 0 0 0 (fun _ => 0) (fun _ => 0) (fun _ => 0) (fun _ => none) (fun _ => 0) (fun _ => 0) (fun _ => 0)) ++ (ME h2 g2 0 0 0 0 0 (-1) 0 0 0 0 0 0 0 wo wz (fun _ => 0) (fun _ => 0) (fun _ => 0) (fun _ => 0))) := hD
  have hK : va_K (dC, dI) cls ((TE g) ++ (TM g2)) s := hK
  refine W.widen (k := 18) (n := 4222) (by decide) (by decide) ?_
  refine lv_astore_n (lv' := [(2, .ref (h2 0)), (1, .ref (h 0)), (0, .ref b)]) hx hb d_L_law_15 rfl hl (by decide) rfl (fun ls hl => ?_)
  refine lv_iconst (v := 0) hx hb d_L_law_16 (by decide) ?_
  refine lv_istore_n (lv' := [(3, .int 0), (2, .ref (h2 0)), (1, .ref (h 0)), (0, .ref b)]) hx hb d_L_law_17 rfl hl (by decide) rfl (fun ls hl => ?_)
  have z0 : Int32.toInt 0 = 0 := by decide
  have z1 : Int32.toInt (-1) = -1 := by decide
  exact law_loop hL C0 hE hK _ 0 0 (-1) 0 0 0 0 0 0 0 0 0 0 0 0 0 0 0 0 (fun _ => 0) (fun _ => 0) (fun _ => 0) (fun _ => 0) (fun _ => 0) (fun _ => 0) (fun _ => none) 0 0 0 0 (-1) 0 0 0 0 0 0 0 wo (fun _ => 0) wz (fun _ => 0) (fun _ => 0) (fun _ => 0) (by omega) (by omega) (by omega) (by omega) (by omega) (by omega) (by omega) (by omega) (by omega) (by omega) (by omega) (by omega) (by omega) (by omega) (by omega) (by omega) (by omega) (fun _ => Or.inl rfl) (by omega) (by omega) (by omega) (by omega) (by omega) (by omega) (Nat.lt_succ_self _) _ _ ls hP hD hS (lv_sub hl [0, 1, 2, 3] rfl)
