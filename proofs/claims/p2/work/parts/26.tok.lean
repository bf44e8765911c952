set_option maxHeartbeats 4000000 in
set_option maxRecDepth 100000 in
theorem bd_T_add_0 {p : Program} {l : Launch} {e : Env} {s : State} {m : MethodId} {args : Array Value} {below : List Frame} {meth : Method} {c : Code} {Q : State → Prop} {A : Nat → Prop} {dC : Nat → ClassId} {dI : Nat → Nat → Nat} {k h : Nat → Nat} {g : Nat → ClassId} {len : Int32} {fp : Int32} {tlen : Int32} {qlen : Int32} {md : Int32} {gat : Int32} {kind : Int32} {gs : Int32} {th : Int32} {st : Int32} {rq : Int32} {bl : Int32} {te : Int32} {og : Int32} {wi : Nat} {ti : Nat} {sc : Nat → Int32} {qb : Nat → Int32} {du : Nat → Int32} (hx : p.tables.exec = Jvm.exec) (hb : c.code = b_T_add) (hml : c.maxLocals = 5) (hown : s.vm.findClass "SieveDesk$Tokens" = some m.cls) (ht : ∀ w ∈ TT, w.before args s = true) (hE : KE k A s s.heap) (hA : ∀ q : Nat, s.heap.size ≤ q → A q) (hK : va_K (dC, dI) cls (TE g) s) {kn : Int32} {wq : Nat} {sy en : Int32} (h_0 : 0 ≤ Int32.toInt tlen) (h_1 : Int32.toInt tlen ≤ 400) (h_2 : wq < 43) (h_3 : 0 ≤ Int32.toInt en) (h_4 : Int32.toInt en ≤ Int32.toInt tlen) (fin : ∀ (u : Int32 × Int32 × (Nat → Int32) × (Nat → Int32) × (Nat → Option Nat) × (Nat → Int32)) (H : Heap) (locs : List Loc) (pc : Nat) (ls : Array Slot), decode b_T_add pc = .ok (.return_, 1) → (0 ≤ Int32.toInt u.1 ∧ Int32.toInt u.1 ≤ 401 ∧ 0 ≤ Int32.toInt u.2.1 ∧ Int32.toInt u.2.1 ≤ Int32.toInt tlen ∧ WOk k u.2.2.2.2.1) → va_P (dC, dI) cls (WE h g len fp u.1 tlen u.2.1 qlen md gat kind (.ref (k wi)) (.ref (k ti)) gs th st rq bl te og sc u.2.2.1 u.2.2.2.1 u.2.2.2.2.1 u.2.2.2.2.2 qb du) H → va_D A (WE h g len fp u.1 tlen u.2.1 qlen md gat kind (.ref (k wi)) (.ref (k ti)) gs th st rq bl te og sc u.2.2.1 u.2.2.2.1 u.2.2.2.2.1 u.2.2.2.2.2 qb du) → va_S A s.heap H locs → W p l e ({ frames := 0, cells := 0, slots := 0, locals := 0 } : Room) s m args below meth c H locs 0 0 Q (F0 m pc ls [])) : ∀ (many : Int32) (tat : Int32) (kd : Nat → Int32) (sr : Nat → Int32) (wo : Nat → Option Nat) (sa : Nat → Int32), 0 ≤ Int32.toInt many → Int32.toInt many ≤ 401 → 0 ≤ Int32.toInt tat → Int32.toInt tat ≤ Int32.toInt tlen → WOk k wo → ∀ (H : Heap) (locs : List Loc) (ls : Array Slot), va_P (dC, dI) cls (WE h g len fp many tlen tat qlen md gat kind (.ref (k wi)) (.ref (k ti)) gs th st rq bl te og sc kd sr wo sa qb du) H → va_D A (WE h g len fp many tlen tat qlen md gat kind (.ref (k wi)) (.ref (k ti)) gs th st rq bl te og sc kd sr wo sa qb du) → va_S A s.heap H locs → lv_has ls 5 [(0, .ref (h 2)), (1, .int kn), (2, .ref (k wq)), (3, .int sy), (4, .int en)] → W p l e ({ frames := 0, cells := 0, slots := 0, locals := 0 } : Room) s m args below meth c H locs 0 0 Q (F0 m 0 ls []) := by
  intro many tat kd sr wo sa v_0 v_1 v_2 v_3 v_4 H locs ls hP hD hS hl
  refine lv_aload_n hx hb d_T_add_0 rfl (lv_at hl 0 rfl) ?_
  refine va_get (D := (dC, dI)) (ci := 1) (v := .int many) (C := "SieveDesk$Tokens") (T := F_T) (N := 9) hx hb ht i_T hown hK hP 2 rfl rfl 6 (by decide) (ht _ k_129) (fun _ h9 => h9) rfl d_T_add_1 ?_
  refine lv_sipush (v := 401) hx hb d_T_add_4 (by decide) ?_
  refine lv_icmp_ge (tgt := 63) hx hb d_T_add_7 (by decide) (fun c_1 => ?_) (fun c_1 => ?_)
  · have dc_1 := i_le c_1 (show Int32.toInt 401 = 401 by decide) rfl
    refine lv_aload_n hx hb d_T_add_63 rfl (lv_at hl 0 rfl) ?_
    refine lv_iload hx hb d_T_add_64 (lv_at hl 4 rfl) ?_
    refine va_put (D := (dC, dI)) (ci := 1) (v := .int en) (ty := .int) (C := "SieveDesk$Tokens") (T := F_T) (N := 9) hx hb ht i_T ty_T ty_T_ok n_T hown hK hP hD hS 2 rfl rfl 8 (by decide) (ht _ k_132) (fun _ h9 => h9) rfl (ty_T_ok 8 (by decide)) rfl rfl (Nat.le_of_ble_eq_true rfl) d_T_add_66 (fun H locs hP hD hS => ?_)
    have hP : va_P (dC, dI) cls (WE h g len fp many tlen en qlen md gat kind (.ref (k wi)) (.ref (k ti)) gs th st rq bl te og sc kd sr wo sa qb du) H := hP
    have hD : va_D A (WE h g len fp many tlen en qlen md gat kind (.ref (k wi)) (.ref (k ti)) gs th st rq bl te og sc kd sr wo sa qb du) := hD
    exact fin  (many, en, kd, sr, wo, sa) _ _ _ ls d_T_add_69 ⟨(by (try dsimp only); omega), (by (try dsimp only); omega), (by (try dsimp only); omega), (by (try dsimp only); omega), v_4⟩ hP hD hS
  · have dc_1 := i_nle c_1 (show Int32.toInt 401 = 401 by decide) rfl
    refine lv_aload_n hx hb d_T_add_10 rfl (lv_at hl 0 rfl) ?_
    refine va_get (D := (dC, dI)) (ci := 1) (v := .ref (h 3)) (C := "SieveDesk$Tokens") (T := F_T) (N := 9) hx hb ht i_T hown hK hP 2 rfl rfl 1 (by decide) (ht _ k_120) (fun _ h9 => h9) rfl d_T_add_11 ?_
    refine lv_aload_n hx hb d_T_add_14 rfl (lv_at hl 0 rfl) ?_
    refine va_get (D := (dC, dI)) (ci := 1) (v := .int many) (C := "SieveDesk$Tokens") (T := F_T) (N := 9) hx hb ht i_T hown hK hP 2 rfl rfl 6 (by decide) (ht _ k_129) (fun _ h9 => h9) rfl d_T_add_15 ?_
    refine lv_iload_n hx hb d_T_add_18 rfl (lv_at hl 1 rfl) ?_
    refine va_iast hx hb hK hP hD hS 3 1 rfl rfl (i_in rfl (by omega) (by omega)) d_T_add_19 (fun H locs hP hD hS => ?_)
    have hP : va_P (dC, dI) cls (WE h g len fp many tlen tat qlen md gat kind (.ref (k wi)) (.ref (k ti)) gs th st rq bl te og sc (upd kd (Int32.toNatClampNeg many) kn) sr wo sa qb du) H := hP
    have hD : va_D A (WE h g len fp many tlen tat qlen md gat kind (.ref (k wi)) (.ref (k ti)) gs th st rq bl te og sc (upd kd (Int32.toNatClampNeg many) kn) sr wo sa qb du) := hD
    refine lv_aload_n hx hb d_T_add_20 rfl (lv_at hl 0 rfl) ?_
    refine va_get (D := (dC, dI)) (ci := 1) (v := .ref (h 4)) (C := "SieveDesk$Tokens") (T := F_T) (N := 9) hx hb ht i_T hown hK hP 2 rfl rfl 2 (by decide) (ht _ k_122) (fun _ h9 => h9) rfl d_T_add_21 ?_
    refine lv_aload_n hx hb d_T_add_24 rfl (lv_at hl 0 rfl) ?_
    refine va_get (D := (dC, dI)) (ci := 1) (v := .int many) (C := "SieveDesk$Tokens") (T := F_T) (N := 9) hx hb ht i_T hown hK hP 2 rfl rfl 6 (by decide) (ht _ k_129) (fun _ h9 => h9) rfl d_T_add_25 ?_
    refine lv_aload_n hx hb d_T_add_28 rfl (lv_at hl 0 rfl) ?_
    refine va_get (D := (dC, dI)) (ci := 1) (v := .int tat) (C := "SieveDesk$Tokens") (T := F_T) (N := 9) hx hb ht i_T hown hK hP 2 rfl rfl 8 (by decide) (ht _ k_132) (fun _ h9 => h9) rfl d_T_add_29 ?_
    refine va_iast hx hb hK hP hD hS 4 2 rfl rfl (i_in rfl (by omega) (by omega)) d_T_add_32 (fun H locs hP hD hS => ?_)
    have hP : va_P (dC, dI) cls (WE h g len fp many tlen tat qlen md gat kind (.ref (k wi)) (.ref (k ti)) gs th st rq bl te og sc (upd kd (Int32.toNatClampNeg many) kn) (upd sr (Int32.toNatClampNeg many) tat) wo sa qb du) H := hP
    have hD : va_D A (WE h g len fp many tlen tat qlen md gat kind (.ref (k wi)) (.ref (k ti)) gs th st rq bl te og sc (upd kd (Int32.toNatClampNeg many) kn) (upd sr (Int32.toNatClampNeg many) tat) wo sa qb du) := hD
    refine lv_aload_n hx hb d_T_add_33 rfl (lv_at hl 0 rfl) ?_
    refine va_get (D := (dC, dI)) (ci := 1) (v := .ref (h 5)) (C := "SieveDesk$Tokens") (T := F_T) (N := 9) hx hb ht i_T hown hK hP 2 rfl rfl 3 (by decide) (ht _ k_124) (fun _ h9 => h9) rfl d_T_add_34 ?_
    refine lv_aload_n hx hb d_T_add_37 rfl (lv_at hl 0 rfl) ?_
    refine va_get (D := (dC, dI)) (ci := 1) (v := .int many) (C := "SieveDesk$Tokens") (T := F_T) (N := 9) hx hb ht i_T hown hK hP 2 rfl rfl 6 (by decide) (ht _ k_129) (fun _ h9 => h9) rfl d_T_add_38 ?_
    refine lv_aload_n hx hb d_T_add_41 rfl (lv_at hl 2 rfl) ?_
    refine vb_astq (C := "SieveDesk$Word") hx hb hK hP hD hS 5 3 rfl rfl (oo_recv (ke_w hE (i := wq) (by omega)).1 hS) vb_asgS (i_in rfl (by omega) (by omega)) d_T_add_42 (fun H locs hP hD hS => ?_)
    have hP : va_P (dC, dI) cls (WE h g len fp many tlen tat qlen md gat kind (.ref (k wi)) (.ref (k ti)) gs th st rq bl te og sc (upd kd (Int32.toNatClampNeg many) kn) (upd sr (Int32.toNatClampNeg many) tat) (va_up wo (Int32.toNatClampNeg many) (some (k wq))) sa qb du) H := hP
    have hD : va_D A (WE h g len fp many tlen tat qlen md gat kind (.ref (k wi)) (.ref (k ti)) gs th st rq bl te og sc (upd kd (Int32.toNatClampNeg many) kn) (upd sr (Int32.toNatClampNeg many) tat) (va_up wo (Int32.toNatClampNeg many) (some (k wq))) sa qb du) := hD
    have hwo_2 : WOk k (va_up wo (Int32.toNatClampNeg many) (some (k wq))) := WOk.up v_4 _ (show wq < 43 by omega)
    refine lv_aload_n hx hb d_T_add_43 rfl (lv_at hl 0 rfl) ?_
    refine va_get (D := (dC, dI)) (ci := 1) (v := .ref (h 6)) (C := "SieveDesk$Tokens") (T := F_T) (N := 9) hx hb ht i_T hown hK hP 2 rfl rfl 4 (by decide) (ht _ k_126) (fun _ h9 => h9) rfl d_T_add_44 ?_
    refine lv_aload_n hx hb d_T_add_47 rfl (lv_at hl 0 rfl) ?_
    refine va_get (D := (dC, dI)) (ci := 1) (v := .int many) (C := "SieveDesk$Tokens") (T := F_T) (N := 9) hx hb ht i_T hown hK hP 2 rfl rfl 6 (by decide) (ht _ k_129) (fun _ h9 => h9) rfl d_T_add_48 ?_
    refine lv_iload_n hx hb d_T_add_51 rfl (lv_at hl 3 rfl) ?_
    refine va_iast hx hb hK hP hD hS 6 4 rfl rfl (i_in rfl (by omega) (by omega)) d_T_add_52 (fun H locs hP hD hS => ?_)
    have hP : va_P (dC, dI) cls (WE h g len fp many tlen tat qlen md gat kind (.ref (k wi)) (.ref (k ti)) gs th st rq bl te og sc (upd kd (Int32.toNatClampNeg many) kn) (upd sr (Int32.toNatClampNeg many) tat) (va_up wo (Int32.toNatClampNeg many) (some (k wq))) (upd sa (Int32.toNatClampNeg many) sy) qb du) H := hP
    have hD : va_D A (WE h g len fp many tlen tat qlen md gat kind (.ref (k wi)) (.ref (k ti)) gs th st rq bl te og sc (upd kd (Int32.toNatClampNeg many) kn) (upd sr (Int32.toNatClampNeg many) tat) (va_up wo (Int32.toNatClampNeg many) (some (k wq))) (upd sa (Int32.toNatClampNeg many) sy) qb du) := hD
    refine lv_aload_n hx hb d_T_add_53 rfl (lv_at hl 0 rfl) ?_
    refine lv_dup hx hb d_T_add_54 rfl ?_
    refine va_get (D := (dC, dI)) (ci := 1) (v := .int many) (C := "SieveDesk$Tokens") (T := F_T) (N := 9) hx hb ht i_T hown hK hP 2 rfl rfl 6 (by decide) (ht _ k_129) (fun _ h9 => h9) rfl d_T_add_55 ?_
    refine lv_iconst (v := 1) hx hb d_T_add_58 (by decide) ?_
    refine lv_iadd hx hb d_T_add_59 ?_
    have e_3 : Int32.toInt (many + 1) = (Int32.toInt many) + 1 := i_add rfl (show Int32.toInt 1 = 1 by decide) (by omega) (by omega)
    refine va_put (D := (dC, dI)) (ci := 1) (v := .int (many + 1)) (ty := .int) (C := "SieveDesk$Tokens") (T := F_T) (N := 9) hx hb ht i_T ty_T ty_T_ok n_T hown hK hP hD hS 2 rfl rfl 6 (by decide) (ht _ k_129) (fun _ h9 => h9) rfl (ty_T_ok 6 (by decide)) rfl rfl (Nat.le_of_ble_eq_true rfl) d_T_add_60 (fun H locs hP hD hS => ?_)
    have hP : va_P (dC, dI) cls (WE h g len fp (many + 1) tlen tat qlen md gat kind (.ref (k wi)) (.ref (k ti)) gs th st rq bl te og sc (upd kd (Int32.toNatClampNeg many) kn) (upd sr (Int32.toNatClampNeg many) tat) (va_up wo (Int32.toNatClampNeg many) (some (k wq))) (upd sa (Int32.toNatClampNeg many) sy) qb du) H := hP
    have hD : va_D A (WE h g len fp (many + 1) tlen tat qlen md gat kind (.ref (k wi)) (.ref (k ti)) gs th st rq bl te og sc (upd kd (Int32.toNatClampNeg many) kn) (upd sr (Int32.toNatClampNeg many) tat) (va_up wo (Int32.toNatClampNeg many) (some (k wq))) (upd sa (Int32.toNatClampNeg many) sy) qb du) := hD
    refine lv_aload_n hx hb d_T_add_63 rfl (lv_at hl 0 rfl) ?_
    refine lv_iload hx hb d_T_add_64 (lv_at hl 4 rfl) ?_
    refine va_put (D := (dC, dI)) (ci := 1) (v := .int en) (ty := .int) (C := "SieveDesk$Tokens") (T := F_T) (N := 9) hx hb ht i_T ty_T ty_T_ok n_T hown hK hP hD hS 2 rfl rfl 8 (by decide) (ht _ k_132) (fun _ h9 => h9) rfl (ty_T_ok 8 (by decide)) rfl rfl (Nat.le_of_ble_eq_true rfl) d_T_add_66 (fun H locs hP hD hS => ?_)
    have hP : va_P (dC, dI) cls (WE h g len fp (many + 1) tlen en qlen md gat kind (.ref (k wi)) (.ref (k ti)) gs th st rq bl te og sc (upd kd (Int32.toNatClampNeg many) kn) (upd sr (Int32.toNatClampNeg many) tat) (va_up wo (Int32.toNatClampNeg many) (some (k wq))) (upd sa (Int32.toNatClampNeg many) sy) qb du) H := hP
    have hD : va_D A (WE h g len fp (many + 1) tlen en qlen md gat kind (.ref (k wi)) (.ref (k ti)) gs th st rq bl te og sc (upd kd (Int32.toNatClampNeg many) kn) (upd sr (Int32.toNatClampNeg many) tat) (va_up wo (Int32.toNatClampNeg many) (some (k wq))) (upd sa (Int32.toNatClampNeg many) sy) qb du) := hD
    exact fin  ((many + 1), en, (upd kd (Int32.toNatClampNeg many) kn), (upd sr (Int32.toNatClampNeg many) tat), (va_up wo (Int32.toNatClampNeg many) (some (k wq))), (upd sa (Int32.toNatClampNeg many) sy)) _ _ _ ls d_T_add_69 ⟨(by (try dsimp only); omega), (by (try dsimp only); omega), (by (try dsimp only); omega), (by (try dsimp only); omega), hwo_2⟩ hP hD hS
set_option maxHeartbeats 4000000 in
set_option maxRecDepth 100000 in
theorem c_T_add (l : Launch) (dC : Nat → ClassId) (dI : Nat → Nat → Nat) (k : Nat → Nat) (h : Nat → Nat) (g : Nat → ClassId) (len : Int32) (fp : Int32) (many : Int32) (tlen : Int32) (tat : Int32) (qlen : Int32) (md : Int32) (gat : Int32) (kind : Int32) (gs : Int32) (th : Int32) (st : Int32) (rq : Int32) (bl : Int32) (te : Int32) (og : Int32) (wi : Nat) (ti : Nat) (sc : Nat → Int32) (kd : Nat → Int32) (sr : Nat → Int32) (sa : Nat → Int32) (qb : Nat → Int32) (du : Nat → Int32) (wo : Nat → Option Nat) (kn : Int32) (wq : Nat) (sy en : Int32) (sz : Nat) (h_0 : 0 ≤ Int32.toInt tlen) (h_1 : Int32.toInt tlen ≤ 400) (h_2 : wq < 43) (h_3 : 0 ≤ Int32.toInt en) (h_4 : Int32.toInt en ≤ Int32.toInt tlen) (v_0 : 0 ≤ Int32.toInt many) (v_1 : Int32.toInt many ≤ 401) (v_2 : 0 ≤ Int32.toInt tat) (v_3 : Int32.toInt tat ≤ Int32.toInt tlen) (v_4 : WOk k wo) : Met l y_T_add (.code y_T_add b_T_add 5 none :: TT) ({ frames := 0, cells := 0, slots := 0, locals := 0 }) (va_Pc [.ref (h 2), .int kn, .ref (k wq), .int sy, .int en] (PX dC dI k (TE g) (WE h g len fp many tlen tat qlen md gat kind (.ref (k wi)) (.ref (k ti)) gs th st rq bl te og sc kd sr wo sa qb du) sz)) (va_Qv (fun u : Int32 × Int32 × (Nat → Int32) × (Nat → Int32) × (Nat → Option Nat) × (Nat → Int32) => 0 ≤ Int32.toInt u.1 ∧ Int32.toInt u.1 ≤ 401 ∧ 0 ≤ Int32.toInt u.2.1 ∧ Int32.toInt u.2.1 ≤ Int32.toInt tlen ∧ WOk k u.2.2.2.2.1) (fun u t => BX dC dI (TE g) (va_A (WE h g len fp many tlen tat qlen md gat kind (.ref (k wi)) (.ref (k ti)) gs th st rq bl te og sc kd sr wo sa qb du) sz) (WE h g len fp u.1 tlen u.2.1 qlen md gat kind (.ref (k wi)) (.ref (k ti)) gs th st rq bl te og sc u.2.2.1 u.2.2.2.1 u.2.2.2.2.1 u.2.2.2.2.2 qb du) t) (va_A (WE h g len fp many tlen tat qlen md gat kind (.ref (k wi)) (.ref (k ti)) gs th st rq bl te og sc kd sr wo sa qb du) sz)) 0 0 (va_A (WE h g len fp many tlen tat qlen md gat kind (.ref (k wi)) (.ref (k ti)) gs th st rq bl te og sc kd sr wo sa qb du) sz) := by
  refine Met.ofW (cc := b_T_add) (maxL := 5) (ret := none) (by decide) rfl ?_
  intro p e s m args below meth c s₁ B hml hv
  obtain ⟨rfl, hsz, hE, hP, hK, hD0⟩ := hv
  have hx := B.exec
  have hb := B.bytes
  have hr := B.returns
  have ht : ∀ w ∈ TT, w.before _ s = true := fun w hw => atoms_spec (ws := .code y_T_add b_T_add 5 none :: TT) B.pre w (List.mem_cons_of_mem _ hw)
  have hown : s.vm.findClass "SieveDesk$Tokens" = some m.cls := findClass_of_methodNamed B.named
  have hlocks := B.notSynchronized
  subst hsz
  have hD := hD0.self (sz := s.heap.size)
  generalize hAe : va_A (WE h g len fp many tlen tat qlen md gat kind (.ref (k wi)) (.ref (k ti)) gs th st rq bl te og sc kd sr wo sa qb du) s.heap.size = A at hE hD ⊢
  have hA : ∀ q : Nat, s.heap.size ≤ q → A q := fun q h9 => by rw [← hAe]; exact Or.inr h9
  have hS : va_S A s.heap s.heap [] := va_S.rf
  have hl := lv_entry ([.ref (h 2), .int kn, .ref (k wq), .int sy, .int en]) (n := 5) (Nat.le_of_ble_eq_true rfl)
  rw [lg_entry_eq]
  generalize (lg_sl ([.ref (h 2), .int kn, .ref (k wq), .int sy, .int en]) ++ List.replicate (5 - (lg_sl ([.ref (h 2), .int kn, .ref (k wq), .int sy, .int en])).length) Slot.unset).toArray = ls at hl ⊢
  have hl : lv_has ls 5 [(0, .ref (h 2)), (1, .int kn), (2, .ref (k wq)), (3, .int sy), (4, .int en)] := hl
  exact bd_T_add_0 (kn := kn) (wq := wq) (sy := sy) (en := en) hx hb hml hown ht hE hA hK h_0 h_1 h_2 h_3 h_4 (fun u H locs pc ls hd hp hP hD hS => W.vret hx hb hr (fun t het hW => ⟨⟨u, rfl, hp, by rw [het]; exact hP, va_K.moved hW.alike hK, hD⟩, hS.F het⟩) hS.2.2 hd) many tat kd sr wo sa v_0 v_1 v_2 v_3 v_4 _ _ ls hP hD hS hl
set_option maxHeartbeats 4000000 in
set_option maxRecDepth 100000 in
theorem lp_T_skipGap_2 {p : Program} {l : Launch} {e : Env} {s : State} {m : MethodId} {args : Array Value} {below : List Frame} {meth : Method} {c : Code} {Q : State → Prop} {A : Nat → Prop} {dC : Nat → ClassId} {dI : Nat → Nat → Nat} {k h : Nat → Nat} {g : Nat → ClassId} {len : Int32} {fp : Int32} {many : Int32} {tlen : Int32} {qlen : Int32} {md : Int32} {gat : Int32} {kind : Int32} {gs : Int32} {th : Int32} {st : Int32} {rq : Int32} {bl : Int32} {te : Int32} {og : Int32} {wi : Nat} {ti : Nat} {sc : Nat → Int32} {kd : Nat → Int32} {sr : Nat → Int32} {sa : Nat → Int32} {qb : Nat → Int32} {du : Nat → Int32} {wo : Nat → Option Nat} (hx : p.tables.exec = Jvm.exec) (hb : c.code = b_T_skipGap) (hml : c.maxLocals = 4) (hown : s.vm.findClass "SieveDesk$Tokens" = some m.cls) (ht : ∀ w ∈ TT, w.before args s = true) (hE : KE k A s s.heap) (hA : ∀ q : Nat, s.heap.size ≤ q → A q) (hK : va_K (dC, dI) cls (TE g) s)  (h_0 : 0 ≤ Int32.toInt tlen) (h_1 : Int32.toInt tlen ≤ 400) (fin : ∀ (u : Int32) (H : Heap) (locs : List Loc) (pc : Nat) (ls : Array Slot), decode b_T_skipGap pc = .ok (.return_, 1) → (0 ≤ Int32.toInt u ∧ Int32.toInt u ≤ Int32.toInt tlen) → va_P (dC, dI) cls (WE h g len fp many tlen u qlen md gat kind (.ref (k wi)) (.ref (k ti)) gs th st rq bl te og sc kd sr wo sa qb du) H → va_D A (WE h g len fp many tlen u qlen md gat kind (.ref (k wi)) (.ref (k ti)) gs th st rq bl te og sc kd sr wo sa qb du) → va_S A s.heap H locs → W p l e ({ frames := 2, cells := 0, slots := 0, locals := 43 } : Room) s m args below meth c H locs 0 0 Q (F0 m pc ls [])) : ∀ (nn : Nat), ∀ (tu : Int32) (tat : Int32), 0 ≤ Int32.toInt tu → Int32.toInt tu ≤ 400 → 0 ≤ Int32.toInt tat → Int32.toInt tat ≤ Int32.toInt tlen → (400 - Int32.toInt tu).toNat < nn → ∀ (H : Heap) (locs : List Loc) (ls : Array Slot), va_P (dC, dI) cls (WE h g len fp many tlen tat qlen md gat kind (.ref (k wi)) (.ref (k ti)) gs th st rq bl te og sc kd sr wo sa qb du) H → va_D A (WE h g len fp many tlen tat qlen md gat kind (.ref (k wi)) (.ref (k ti)) gs th st rq bl te og sc kd sr wo sa qb du) → va_S A s.heap H locs → lv_has ls 4 [(1, .int tu), (0, .ref (h 2))] → W p l e ({ frames := 2, cells := 0, slots := 0, locals := 43 } : Room) s m args below meth c H locs 0 0 Q (F0 m 2 ls []) := by
  intro nn
  induction nn with
  | zero =>
    intro _ _ _ _ _ _ hm
    exact absurd hm (Nat.not_lt_zero _)
  | succ nn ih =>
    intro tu tat v_0 v_1 v_2 v_3 hm H locs ls hP hD hS hl
    refine lv_iload_n hx hb d_T_skipGap_2 rfl (lv_at hl 0 rfl) ?_
    refine lv_sipush (v := 400) hx hb d_T_skipGap_3 (by decide) ?_
    refine lv_icmp_ge (tgt := 152) hx hb d_T_skipGap_6 (by decide) (fun c_1 => ?_) (fun c_1 => ?_)
    · have dc_1 := i_le c_1 (show Int32.toInt 400 = 400 by decide) rfl
      exact fin  tat _ _ _ ls d_T_skipGap_152 ⟨(by (try dsimp only); omega), (by (try dsimp only); omega)⟩ hP hD hS
    · have dc_1 := i_nle c_1 (show Int32.toInt 400 = 400 by decide) rfl
      refine lv_aload_n hx hb d_T_skipGap_9 rfl (lv_at hl 1 rfl) ?_
      refine va_get (D := (dC, dI)) (ci := 1) (v := .int tat) (C := "SieveDesk$Tokens") (T := F_T) (N := 9) hx hb ht i_T hown hK hP 2 rfl rfl 8 (by decide) (ht _ k_132) (fun _ h9 => h9) rfl d_T_skipGap_10 ?_
      refine lv_aload_n hx hb d_T_skipGap_13 rfl (lv_at hl 1 rfl) ?_
      refine va_get (D := (dC, dI)) (ci := 1) (v := .int tlen) (C := "SieveDesk$Tokens") (T := F_T) (N := 9) hx hb ht i_T hown hK hP 2 rfl rfl 7 (by decide) (ht _ k_131) (fun _ h9 => h9) rfl d_T_skipGap_14 ?_
      refine lv_icmp_ge (tgt := 152) hx hb d_T_skipGap_17 (by decide) (fun c_2 => ?_) (fun c_2 => ?_)
      · have dc_2 := i_le c_2 rfl rfl
        exact fin  tat _ _ _ ls d_T_skipGap_152 ⟨(by (try dsimp only); omega), (by (try dsimp only); omega)⟩ hP hD hS
      · have dc_2 := i_nle c_2 rfl rfl
        refine lv_aload_n hx hb d_T_skipGap_20 rfl (lv_at hl 1 rfl) ?_
        refine lv_aload_n hx hb d_T_skipGap_21 rfl (lv_at hl 1 rfl) ?_
        refine va_get (D := (dC, dI)) (ci := 1) (v := .int tat) (C := "SieveDesk$Tokens") (T := F_T) (N := 9) hx hb ht i_T hown hK hP 2 rfl rfl 8 (by decide) (ht _ k_132) (fun _ h9 => h9) rfl d_T_skipGap_22 ?_
        have hFc := va_free (wc := (WE h g len fp many tlen tat qlen md gat kind (.ref (k wi)) (.ref (k ti)) gs th st rq bl te og sc kd sr wo sa qb du)) hD hS hA [0, 1, 2, 3, 4, 5, 6, 7, 8, 9, 10] rfl
        refine va_calli (va_runV (As := [.int tat]) (rest := []) ⟨hx, hb, hml, hown, ht⟩ (c_T_byteAt l dC dI k h g len fp many tlen tat qlen md gat kind gs th st rq bl te og wi ti sc kd sr sa qb du wo tat _  ) (cwV 1 ht (g_V k_239 k_241 k_2 k_75 k_242) rfl rfl rfl (by decide +kernel) ⟨(Nat.le_of_ble_eq_true rfl), (Nat.le_of_ble_eq_true rfl)⟩) ⟨fb_X, va_recv hK hP (ci := 1) (q0 := 2) rfl rfl, pre_X hE hS hFc hP hK hD⟩ rfl rfl hl.1 rfl (lv_room (Nat.le_of_ble_eq_true rfl)) d_T_skipGap_25 ⟨(Nat.le_of_ble_eq_true rfl), (Nat.le_of_ble_eq_true rfl)⟩) hS (fun q _ h9 => hFc q h9) hFc (fun r_4 u_3 t H locs het hvm hw hB hz1 hk1 hS => ?_)
        obtain ⟨p_5, p_6, p_7⟩ := hw
        obtain ⟨hP1, hK1, hD1⟩ := hB
        rw [het] at hP1
        have hP : va_P (dC, dI) cls (WE h g len fp many tlen tat qlen md gat kind (.ref (k wi)) (.ref (k ti)) gs th st rq bl te og sc kd sr wo sa qb du) H := hP1
        have hD : va_D A (WE h g len fp many tlen tat qlen md gat kind (.ref (k wi)) (.ref (k ti)) gs th st rq bl te og sc kd sr wo sa qb du) := hD1.weaken (fun _ _ _ h9 => hFc _ h9)
        refine lv_istore_n (lv' := [(2, .int r_4), (1, .int tu), (0, .ref (h 2))]) hx hb d_T_skipGap_28 rfl hl (by decide) rfl (fun ls hl => ?_)
        refine lv_iload_n hx hb d_T_skipGap_29 rfl (lv_at hl 0 rfl) ?_
        refine lv_bipush (v := 32) hx hb d_T_skipGap_30 (by decide) ?_
        refine lv_icmp_eq (tgt := 53) hx hb d_T_skipGap_32 (by decide) (fun c_8 => ?_) (fun c_8 => ?_)
        · have dc_8 := i_eq c_8 rfl (show Int32.toInt 32 = 32 by decide)
          refine lv_aload_n hx hb d_T_skipGap_53 rfl (lv_at hl 2 rfl) ?_
          refine lv_dup hx hb d_T_skipGap_54 rfl ?_
          refine va_get (D := (dC, dI)) (ci := 1) (v := .int tat) (C := "SieveDesk$Tokens") (T := F_T) (N := 9) hx hb ht i_T hown hK hP 2 rfl rfl 8 (by decide) (ht _ k_132) (fun _ h9 => h9) rfl d_T_skipGap_55 ?_
          refine lv_iconst (v := 1) hx hb d_T_skipGap_58 (by decide) ?_
          refine lv_iadd hx hb d_T_skipGap_59 ?_
          have e_9 : Int32.toInt (tat + 1) = (Int32.toInt tat) + 1 := i_add rfl (show Int32.toInt 1 = 1 by decide) (by omega) (by omega)
          refine va_put (D := (dC, dI)) (ci := 1) (v := .int (tat + 1)) (ty := .int) (C := "SieveDesk$Tokens") (T := F_T) (N := 9) hx hb ht i_T ty_T ty_T_ok n_T hown hK hP hD hS 2 rfl rfl 8 (by decide) (ht _ k_132) (fun _ h9 => h9) rfl (ty_T_ok 8 (by decide)) rfl rfl (Nat.le_of_ble_eq_true rfl) d_T_skipGap_60 (fun H locs hP hD hS => ?_)
          have hP : va_P (dC, dI) cls (WE h g len fp many tlen (tat + 1) qlen md gat kind (.ref (k wi)) (.ref (k ti)) gs th st rq bl te og sc kd sr wo sa qb du) H := hP
          have hD : va_D A (WE h g len fp many tlen (tat + 1) qlen md gat kind (.ref (k wi)) (.ref (k ti)) gs th st rq bl te og sc kd sr wo sa qb du) := hD
          refine lv_goto (tgt := 146) hx hb d_T_skipGap_63 (by decide) ?_
          refine lv_iinc (v := (tu + 1)) (lv' := [(1, .int (tu + 1)), (2, .int r_4), (0, .ref (h 2))]) hx hb d_T_skipGap_146 hl (k := 1) rfl rfl (by decide) rfl (fun ls hl => ?_)
          have e_10 : Int32.toInt (tu + 1) = (Int32.toInt tu) + 1 := i_add rfl (show Int32.toInt 1 = 1 by decide) (by omega) (by omega)
          refine lv_goto (tgt := 2) hx hb d_T_skipGap_149 (by decide) ?_
          exact ih (tu + 1) (tat + 1) (by omega) (by omega) (by omega) (by omega) (by omega) _ _ ls hP hD hS (lv_sub hl [0, 2] rfl)
        · have dc_8 := i_ne c_8 rfl (show Int32.toInt 32 = 32 by decide)
          refine lv_iload_n hx hb d_T_skipGap_35 rfl (lv_at hl 0 rfl) ?_
          refine lv_bipush (v := 9) hx hb d_T_skipGap_36 (by decide) ?_
          refine lv_icmp_eq (tgt := 53) hx hb d_T_skipGap_38 (by decide) (fun c_11 => ?_) (fun c_11 => ?_)
          · have dc_11 := i_eq c_11 rfl (show Int32.toInt 9 = 9 by decide)
            refine lv_aload_n hx hb d_T_skipGap_53 rfl (lv_at hl 2 rfl) ?_
            refine lv_dup hx hb d_T_skipGap_54 rfl ?_
            refine va_get (D := (dC, dI)) (ci := 1) (v := .int tat) (C := "SieveDesk$Tokens") (T := F_T) (N := 9) hx hb ht i_T hown hK hP 2 rfl rfl 8 (by decide) (ht _ k_132) (fun _ h9 => h9) rfl d_T_skipGap_55 ?_
            refine lv_iconst (v := 1) hx hb d_T_skipGap_58 (by decide) ?_
            refine lv_iadd hx hb d_T_skipGap_59 ?_
            have e_12 : Int32.toInt (tat + 1) = (Int32.toInt tat) + 1 := i_add rfl (show Int32.toInt 1 = 1 by decide) (by omega) (by omega)
            refine va_put (D := (dC, dI)) (ci := 1) (v := .int (tat + 1)) (ty := .int) (C := "SieveDesk$Tokens") (T := F_T) (N := 9) hx hb ht i_T ty_T ty_T_ok n_T hown hK hP hD hS 2 rfl rfl 8 (by decide) (ht _ k_132) (fun _ h9 => h9) rfl (ty_T_ok 8 (by decide)) rfl rfl (Nat.le_of_ble_eq_true rfl) d_T_skipGap_60 (fun H locs hP hD hS => ?_)
            have hP : va_P (dC, dI) cls (WE h g len fp many tlen (tat + 1) qlen md gat kind (.ref (k wi)) (.ref (k ti)) gs th st rq bl te og sc kd sr wo sa qb du) H := hP
            have hD : va_D A (WE h g len fp many tlen (tat + 1) qlen md gat kind (.ref (k wi)) (.ref (k ti)) gs th st rq bl te og sc kd sr wo sa qb du) := hD
            refine lv_goto (tgt := 146) hx hb d_T_skipGap_63 (by decide) ?_
            refine lv_iinc (v := (tu + 1)) (lv' := [(1, .int (tu + 1)), (2, .int r_4), (0, .ref (h 2))]) hx hb d_T_skipGap_146 hl (k := 1) rfl rfl (by decide) rfl (fun ls hl => ?_)
            have e_13 : Int32.toInt (tu + 1) = (Int32.toInt tu) + 1 := i_add rfl (show Int32.toInt 1 = 1 by decide) (by omega) (by omega)
            refine lv_goto (tgt := 2) hx hb d_T_skipGap_149 (by decide) ?_
            exact ih (tu + 1) (tat + 1) (by omega) (by omega) (by omega) (by omega) (by omega) _ _ ls hP hD hS (lv_sub hl [0, 2] rfl)
          · have dc_11 := i_ne c_11 rfl (show Int32.toInt 9 = 9 by decide)
            refine lv_iload_n hx hb d_T_skipGap_41 rfl (lv_at hl 0 rfl) ?_
            refine lv_bipush (v := 10) hx hb d_T_skipGap_42 (by decide) ?_
            refine lv_icmp_eq (tgt := 53) hx hb d_T_skipGap_44 (by decide) (fun c_14 => ?_) (fun c_14 => ?_)
            · have dc_14 := i_eq c_14 rfl (show Int32.toInt 10 = 10 by decide)
              refine lv_aload_n hx hb d_T_skipGap_53 rfl (lv_at hl 2 rfl) ?_
              refine lv_dup hx hb d_T_skipGap_54 rfl ?_
              refine va_get (D := (dC, dI)) (ci := 1) (v := .int tat) (C := "SieveDesk$Tokens") (T := F_T) (N := 9) hx hb ht i_T hown hK hP 2 rfl rfl 8 (by decide) (ht _ k_132) (fun _ h9 => h9) rfl d_T_skipGap_55 ?_
              refine lv_iconst (v := 1) hx hb d_T_skipGap_58 (by decide) ?_
              refine lv_iadd hx hb d_T_skipGap_59 ?_
              have e_15 : Int32.toInt (tat + 1) = (Int32.toInt tat) + 1 := i_add rfl (show Int32.toInt 1 = 1 by decide) (by omega) (by omega)
              refine va_put (D := (dC, dI)) (ci := 1) (v := .int (tat + 1)) (ty := .int) (C := "SieveDesk$Tokens") (T := F_T) (N := 9) hx hb ht i_T ty_T ty_T_ok n_T hown hK hP hD hS 2 rfl rfl 8 (by decide) (ht _ k_132) (fun _ h9 => h9) rfl (ty_T_ok 8 (by decide)) rfl rfl (Nat.le_of_ble_eq_true rfl) d_T_skipGap_60 (fun H locs hP hD hS => ?_)
              have hP : va_P (dC, dI) cls (WE h g len fp many tlen (tat + 1) qlen md gat kind (.ref (k wi)) (.ref (k ti)) gs th st rq bl te og sc kd sr wo sa qb du) H := hP
              have hD : va_D A (WE h g len fp many tlen (tat + 1) qlen md gat kind (.ref (k wi)) (.ref (k ti)) gs th st rq bl te og sc kd sr wo sa qb du) := hD
              refine lv_goto (tgt := 146) hx hb d_T_skipGap_63 (by decide) ?_
              refine lv_iinc (v := (tu + 1)) (lv' := [(1, .int (tu + 1)), (2, .int r_4), (0, .ref (h 2))]) hx hb d_T_skipGap_146 hl (k := 1) rfl rfl (by decide) rfl (fun ls hl => ?_)
              have e_16 : Int32.toInt (tu + 1) = (Int32.toInt tu) + 1 := i_add rfl (show Int32.toInt 1 = 1 by decide) (by omega) (by omega)
              refine lv_goto (tgt := 2) hx hb d_T_skipGap_149 (by decide) ?_
              exact ih (tu + 1) (tat + 1) (by omega) (by omega) (by omega) (by omega) (by omega) _ _ ls hP hD hS (lv_sub hl [0, 2] rfl)
            · have dc_14 := i_ne c_14 rfl (show Int32.toInt 10 = 10 by decide)
              refine lv_iload_n hx hb d_T_skipGap_47 rfl (lv_at hl 0 rfl) ?_
              refine lv_bipush (v := 13) hx hb d_T_skipGap_48 (by decide) ?_
              refine lv_icmp_ne (tgt := 66) hx hb d_T_skipGap_50 (by decide) (fun c_17 => ?_) (fun c_17 => ?_)
              · have dc_17 := i_ne c_17 rfl (show Int32.toInt 13 = 13 by decide)
                refine lv_iload_n hx hb d_T_skipGap_66 rfl (lv_at hl 0 rfl) ?_
                refine lv_bipush (v := 35) hx hb d_T_skipGap_67 (by decide) ?_
                refine lv_icmp_ne (tgt := 100) hx hb d_T_skipGap_69 (by decide) (fun c_18 => ?_) (fun c_18 => ?_)
                · have dc_18 := i_ne c_18 rfl (show Int32.toInt 35 = 35 by decide)
                  refine lv_iload_n hx hb d_T_skipGap_100 rfl (lv_at hl 0 rfl) ?_
                  refine lv_bipush (v := 47) hx hb d_T_skipGap_101 (by decide) ?_
                  refine lv_icmp_ne (tgt := 145) hx hb d_T_skipGap_103 (by decide) (fun c_19 => ?_) (fun c_19 => ?_)
                  · have dc_19 := i_ne c_19 rfl (show Int32.toInt 47 = 47 by decide)
                    exact fin  tat _ _ _ ls d_T_skipGap_145 ⟨(by (try dsimp only); omega), (by (try dsimp only); omega)⟩ hP hD hS
                  · have dc_19 := i_eq c_19 rfl (show Int32.toInt 47 = 47 by decide)
                    refine lv_aload_n hx hb d_T_skipGap_106 rfl (lv_at hl 2 rfl) ?_
                    refine lv_aload_n hx hb d_T_skipGap_107 rfl (lv_at hl 2 rfl) ?_
                    refine va_get (D := (dC, dI)) (ci := 1) (v := .int tat) (C := "SieveDesk$Tokens") (T := F_T) (N := 9) hx hb ht i_T hown hK hP 2 rfl rfl 8 (by decide) (ht _ k_132) (fun _ h9 => h9) rfl d_T_skipGap_108 ?_
                    refine lv_iconst (v := 1) hx hb d_T_skipGap_111 (by decide) ?_
                    refine lv_iadd hx hb d_T_skipGap_112 ?_
                    have e_20 : Int32.toInt (tat + 1) = (Int32.toInt tat) + 1 := i_add rfl (show Int32.toInt 1 = 1 by decide) (by omega) (by omega)
                    have hFc := va_free (wc := (WE h g len fp many tlen tat qlen md gat kind (.ref (k wi)) (.ref (k ti)) gs th st rq bl te og sc kd sr wo sa qb du)) hD hS hA [0, 1, 2, 3, 4, 5, 6, 7, 8, 9, 10] rfl
                    refine va_calli (va_runV (As := [.int (tat + 1)]) (rest := []) ⟨hx, hb, hml, hown, ht⟩ (c_T_byteAt l dC dI k h g len fp many tlen tat qlen md gat kind gs th st rq bl te og wi ti sc kd sr sa qb du wo (tat + 1) _  ) (cwV 1 ht (g_V k_239 k_241 k_2 k_75 k_242) rfl rfl rfl (by decide +kernel) ⟨(Nat.le_of_ble_eq_true rfl), (Nat.le_of_ble_eq_true rfl)⟩) ⟨fb_X, va_recv hK hP (ci := 1) (q0 := 2) rfl rfl, pre_X hE hS hFc hP hK hD⟩ rfl rfl hl.1 rfl (lv_room (Nat.le_of_ble_eq_true rfl)) d_T_skipGap_113 ⟨(Nat.le_of_ble_eq_true rfl), (Nat.le_of_ble_eq_true rfl)⟩) hS (fun q _ h9 => hFc q h9) hFc (fun r_22 u_21 t H locs het hvm hw hB hz1 hk1 hS => ?_)
                    obtain ⟨p_23, p_24, p_25⟩ := hw
                    obtain ⟨hP1, hK1, hD1⟩ := hB
                    rw [het] at hP1
                    have hP : va_P (dC, dI) cls (WE h g len fp many tlen tat qlen md gat kind (.ref (k wi)) (.ref (k ti)) gs th st rq bl te og sc kd sr wo sa qb du) H := hP1
                    have hD : va_D A (WE h g len fp many tlen tat qlen md gat kind (.ref (k wi)) (.ref (k ti)) gs th st rq bl te og sc kd sr wo sa qb du) := hD1.weaken (fun _ _ _ h9 => hFc _ h9)
                    refine lv_bipush (v := 42) hx hb d_T_skipGap_116 (by decide) ?_
                    refine lv_icmp_ne (tgt := 145) hx hb d_T_skipGap_118 (by decide) (fun c_26 => ?_) (fun c_26 => ?_)
                    · have dc_26 := i_ne c_26 rfl (show Int32.toInt 42 = 42 by decide)
                      exact fin  tat _ _ _ ls d_T_skipGap_145 ⟨(by (try dsimp only); omega), (by (try dsimp only); omega)⟩ hP hD hS
                    · have dc_26 := i_eq c_26 rfl (show Int32.toInt 42 = 42 by decide)
                      refine lv_aload_n hx hb d_T_skipGap_121 rfl (lv_at hl 2 rfl) ?_
                      refine lv_aload_n hx hb d_T_skipGap_122 rfl (lv_at hl 2 rfl) ?_
                      refine va_get (D := (dC, dI)) (ci := 1) (v := .int tat) (C := "SieveDesk$Tokens") (T := F_T) (N := 9) hx hb ht i_T hown hK hP 2 rfl rfl 8 (by decide) (ht _ k_132) (fun _ h9 => h9) rfl d_T_skipGap_123 ?_
                      refine lv_iconst (v := 2) hx hb d_T_skipGap_126 (by decide) ?_
                      refine lv_iadd hx hb d_T_skipGap_127 ?_
                      have e_27 : Int32.toInt (tat + 2) = (Int32.toInt tat) + 2 := i_add rfl (show Int32.toInt 2 = 2 by decide) (by omega) (by omega)
                      have hFc := va_free (wc := (WE h g len fp many tlen tat qlen md gat kind (.ref (k wi)) (.ref (k ti)) gs th st rq bl te og sc kd sr wo sa qb du)) hD hS hA [0, 1, 2, 3, 4, 5, 6, 7, 8, 9, 10] rfl
                      refine va_calli (va_runV (As := [.int (tat + 2)]) (rest := []) ⟨hx, hb, hml, hown, ht⟩ (c_T_behindComment l dC dI k h g len fp many tlen tat qlen md gat kind gs th st rq bl te og wi ti sc kd sr sa qb du wo (tat + 2) _ (by omega) (by omega) (by omega) (by omega) ) (cwV 1 ht (g_V k_247 k_249 k_4 k_75 k_250) rfl rfl rfl (by decide +kernel) ⟨(Nat.le_of_ble_eq_true rfl), (Nat.le_of_ble_eq_true rfl)⟩) ⟨fb_X, va_recv hK hP (ci := 1) (q0 := 2) rfl rfl, pre_X hE hS hFc hP hK hD⟩ rfl rfl hl.1 rfl (lv_room (Nat.le_of_ble_eq_true rfl)) d_T_skipGap_128 ⟨(Nat.le_of_ble_eq_true rfl), (Nat.le_of_ble_eq_true rfl)⟩) hS (fun q _ h9 => hFc q h9) hFc (fun r_29 u_28 t H locs het hvm hw hB hz1 hk1 hS => ?_)
                      have p_30 := hw
                      obtain ⟨hP1, hK1, hD1⟩ := hB
                      rw [het] at hP1
                      have hP : va_P (dC, dI) cls (WE h g len fp many tlen tat qlen md gat kind (.ref (k wi)) (.ref (k ti)) gs th st rq bl te og sc kd sr wo sa qb du) H := hP1
                      have hD : va_D A (WE h g len fp many tlen tat qlen md gat kind (.ref (k wi)) (.ref (k ti)) gs th st rq bl te og sc kd sr wo sa qb du) := hD1.weaken (fun _ _ _ h9 => hFc _ h9)
                      refine lv_istore_n (lv' := [(3, .int r_29), (2, .int r_4), (1, .int tu), (0, .ref (h 2))]) hx hb d_T_skipGap_131 rfl hl (by decide) rfl (fun ls hl => ?_)
                      refine lv_iload_n hx hb d_T_skipGap_132 rfl (lv_at hl 0 rfl) ?_
                      refine lv_if_ge (tgt := 137) hx hb d_T_skipGap_133 (by decide) (fun c_31 => ?_) (fun c_31 => ?_)
                      · have dc_31 := i_le c_31 (show Int32.toInt 0 = 0 by decide) rfl
                        refine lv_aload_n hx hb d_T_skipGap_137 rfl (lv_at hl 3 rfl) ?_
                        refine lv_iload_n hx hb d_T_skipGap_138 rfl (lv_at hl 0 rfl) ?_
                        refine va_put (D := (dC, dI)) (ci := 1) (v := .int r_29) (ty := .int) (C := "SieveDesk$Tokens") (T := F_T) (N := 9) hx hb ht i_T ty_T ty_T_ok n_T hown hK hP hD hS 2 rfl rfl 8 (by decide) (ht _ k_132) (fun _ h9 => h9) rfl (ty_T_ok 8 (by decide)) rfl rfl (Nat.le_of_ble_eq_true rfl) d_T_skipGap_139 (fun H locs hP hD hS => ?_)
                        have hP : va_P (dC, dI) cls (WE h g len fp many tlen r_29 qlen md gat kind (.ref (k wi)) (.ref (k ti)) gs th st rq bl te og sc kd sr wo sa qb du) H := hP
                        have hD : va_D A (WE h g len fp many tlen r_29 qlen md gat kind (.ref (k wi)) (.ref (k ti)) gs th st rq bl te og sc kd sr wo sa qb du) := hD
                        refine lv_goto (tgt := 146) hx hb d_T_skipGap_142 (by decide) ?_
                        refine lv_iinc (v := (tu + 1)) (lv' := [(1, .int (tu + 1)), (3, .int r_29), (2, .int r_4), (0, .ref (h 2))]) hx hb d_T_skipGap_146 hl (k := 2) rfl rfl (by decide) rfl (fun ls hl => ?_)
                        have e_32 : Int32.toInt (tu + 1) = (Int32.toInt tu) + 1 := i_add rfl (show Int32.toInt 1 = 1 by decide) (by omega) (by omega)
                        refine lv_goto (tgt := 2) hx hb d_T_skipGap_149 (by decide) ?_
                        exact ih (tu + 1) r_29 (by omega) (by omega) (by omega) (by omega) (by omega) _ _ ls hP hD hS (lv_sub hl [0, 3] rfl)
                      · have dc_31 := i_nle c_31 (show Int32.toInt 0 = 0 by decide) rfl
                        exact fin  tat _ _ _ ls d_T_skipGap_136 ⟨(by (try dsimp only); omega), (by (try dsimp only); omega)⟩ hP hD hS
                · have dc_18 := i_eq c_18 rfl (show Int32.toInt 35 = 35 by decide)
                  refine lv_aload_n hx hb d_T_skipGap_72 rfl (lv_at hl 2 rfl) ?_
                  refine lv_aload_n hx hb d_T_skipGap_73 rfl (lv_at hl 2 rfl) ?_
                  refine va_get (D := (dC, dI)) (ci := 1) (v := .int tat) (C := "SieveDesk$Tokens") (T := F_T) (N := 9) hx hb ht i_T hown hK hP 2 rfl rfl 8 (by decide) (ht _ k_132) (fun _ h9 => h9) rfl d_T_skipGap_74 ?_
                  have hFc := va_free (wc := (WE h g len fp many tlen tat qlen md gat kind (.ref (k wi)) (.ref (k ti)) gs th st rq bl te og sc kd sr wo sa qb du)) hD hS hA [0, 1, 2, 3, 4, 5, 6, 7, 8, 9, 10] rfl
                  refine va_calli (va_runV (As := [.int tat]) (rest := []) ⟨hx, hb, hml, hown, ht⟩ (c_T_behindLine l dC dI k h g len fp many tlen tat qlen md gat kind gs th st rq bl te og wi ti sc kd sr sa qb du wo tat _ (by omega) (by omega) (by omega) (by omega) ) (cwV 1 ht (g_V k_243 k_245 k_3 k_75 k_246) rfl rfl rfl (by decide +kernel) ⟨(Nat.le_of_ble_eq_true rfl), (Nat.le_of_ble_eq_true rfl)⟩) ⟨fb_X, va_recv hK hP (ci := 1) (q0 := 2) rfl rfl, pre_X hE hS hFc hP hK hD⟩ rfl rfl hl.1 rfl (lv_room (Nat.le_of_ble_eq_true rfl)) d_T_skipGap_77 ⟨(Nat.le_of_ble_eq_true rfl), (Nat.le_of_ble_eq_true rfl)⟩) hS (fun q _ h9 => hFc q h9) hFc (fun r_34 u_33 t H locs het hvm hw hB hz1 hk1 hS => ?_)
                  have p_35 := hw
                  obtain ⟨hP1, hK1, hD1⟩ := hB
                  rw [het] at hP1
                  have hP : va_P (dC, dI) cls (WE h g len fp many tlen tat qlen md gat kind (.ref (k wi)) (.ref (k ti)) gs th st rq bl te og sc kd sr wo sa qb du) H := hP1
                  have hD : va_D A (WE h g len fp many tlen tat qlen md gat kind (.ref (k wi)) (.ref (k ti)) gs th st rq bl te og sc kd sr wo sa qb du) := hD1.weaken (fun _ _ _ h9 => hFc _ h9)
                  refine lv_istore_n (lv' := [(3, .int r_34), (2, .int r_4), (1, .int tu), (0, .ref (h 2))]) hx hb d_T_skipGap_80 rfl hl (by decide) rfl (fun ls hl => ?_)
                  refine lv_aload_n hx hb d_T_skipGap_81 rfl (lv_at hl 3 rfl) ?_
                  refine lv_iload_n hx hb d_T_skipGap_82 rfl (lv_at hl 0 rfl) ?_
                  refine lv_if_ge (tgt := 93) hx hb d_T_skipGap_83 (by decide) (fun c_36 => ?_) (fun c_36 => ?_)
                  · have dc_36 := i_le c_36 (show Int32.toInt 0 = 0 by decide) rfl
                    refine lv_iload_n hx hb d_T_skipGap_93 rfl (lv_at hl 0 rfl) ?_
                    refine va_put (D := (dC, dI)) (ci := 1) (v := .int r_34) (ty := .int) (C := "SieveDesk$Tokens") (T := F_T) (N := 9) hx hb ht i_T ty_T ty_T_ok n_T hown hK hP hD hS 2 rfl rfl 8 (by decide) (ht _ k_132) (fun _ h9 => h9) rfl (ty_T_ok 8 (by decide)) rfl rfl (Nat.le_of_ble_eq_true rfl) d_T_skipGap_94 (fun H locs hP hD hS => ?_)
                    have hP : va_P (dC, dI) cls (WE h g len fp many tlen r_34 qlen md gat kind (.ref (k wi)) (.ref (k ti)) gs th st rq bl te og sc kd sr wo sa qb du) H := hP
                    have hD : va_D A (WE h g len fp many tlen r_34 qlen md gat kind (.ref (k wi)) (.ref (k ti)) gs th st rq bl te og sc kd sr wo sa qb du) := hD
                    refine lv_goto (tgt := 146) hx hb d_T_skipGap_97 (by decide) ?_
                    refine lv_iinc (v := (tu + 1)) (lv' := [(1, .int (tu + 1)), (3, .int r_34), (2, .int r_4), (0, .ref (h 2))]) hx hb d_T_skipGap_146 hl (k := 2) rfl rfl (by decide) rfl (fun ls hl => ?_)
                    have e_37 : Int32.toInt (tu + 1) = (Int32.toInt tu) + 1 := i_add rfl (show Int32.toInt 1 = 1 by decide) (by omega) (by omega)
                    refine lv_goto (tgt := 2) hx hb d_T_skipGap_149 (by decide) ?_
                    exact ih (tu + 1) r_34 (by omega) (by omega) (by omega) (by omega) (by omega) _ _ ls hP hD hS (lv_sub hl [0, 3] rfl)
                  · have dc_36 := i_nle c_36 (show Int32.toInt 0 = 0 by decide) rfl
                    refine lv_aload_n hx hb d_T_skipGap_86 rfl (lv_at hl 3 rfl) ?_
                    refine va_get (D := (dC, dI)) (ci := 1) (v := .int tlen) (C := "SieveDesk$Tokens") (T := F_T) (N := 9) hx hb ht i_T hown hK hP 2 rfl rfl 7 (by decide) (ht _ k_131) (fun _ h9 => h9) rfl d_T_skipGap_87 ?_
                    refine lv_goto (tgt := 94) hx hb d_T_skipGap_90 (by decide) ?_
                    refine va_put (D := (dC, dI)) (ci := 1) (v := .int tlen) (ty := .int) (C := "SieveDesk$Tokens") (T := F_T) (N := 9) hx hb ht i_T ty_T ty_T_ok n_T hown hK hP hD hS 2 rfl rfl 8 (by decide) (ht _ k_132) (fun _ h9 => h9) rfl (ty_T_ok 8 (by decide)) rfl rfl (Nat.le_of_ble_eq_true rfl) d_T_skipGap_94 (fun H locs hP hD hS => ?_)
                    have hP : va_P (dC, dI) cls (WE h g len fp many tlen tlen qlen md gat kind (.ref (k wi)) (.ref (k ti)) gs th st rq bl te og sc kd sr wo sa qb du) H := hP
                    have hD : va_D A (WE h g len fp many tlen tlen qlen md gat kind (.ref (k wi)) (.ref (k ti)) gs th st rq bl te og sc kd sr wo sa qb du) := hD
                    refine lv_goto (tgt := 146) hx hb d_T_skipGap_97 (by decide) ?_
                    refine lv_iinc (v := (tu + 1)) (lv' := [(1, .int (tu + 1)), (3, .int r_34), (2, .int r_4), (0, .ref (h 2))]) hx hb d_T_skipGap_146 hl (k := 2) rfl rfl (by decide) rfl (fun ls hl => ?_)
                    have e_38 : Int32.toInt (tu + 1) = (Int32.toInt tu) + 1 := i_add rfl (show Int32.toInt 1 = 1 by decide) (by omega) (by omega)
                    refine lv_goto (tgt := 2) hx hb d_T_skipGap_149 (by decide) ?_
                    exact ih (tu + 1) tlen (by omega) (by omega) (by omega) (by omega) (by omega) _ _ ls hP hD hS (lv_sub hl [0, 3] rfl)
              · have dc_17 := i_eq c_17 rfl (show Int32.toInt 13 = 13 by decide)
                refine lv_aload_n hx hb d_T_skipGap_53 rfl (lv_at hl 2 rfl) ?_
                refine lv_dup hx hb d_T_skipGap_54 rfl ?_
                refine va_get (D := (dC, dI)) (ci := 1) (v := .int tat) (C := "SieveDesk$Tokens") (T := F_T) (N := 9) hx hb ht i_T hown hK hP 2 rfl rfl 8 (by decide) (ht _ k_132) (fun _ h9 => h9) rfl d_T_skipGap_55 ?_
                refine lv_iconst (v := 1) hx hb d_T_skipGap_58 (by decide) ?_
                refine lv_iadd hx hb d_T_skipGap_59 ?_
                have e_39 : Int32.toInt (tat + 1) = (Int32.toInt tat) + 1 := i_add rfl (show Int32.toInt 1 = 1 by decide) (by omega) (by omega)
                refine va_put (D := (dC, dI)) (ci := 1) (v := .int (tat + 1)) (ty := .int) (C := "SieveDesk$Tokens") (T := F_T) (N := 9) hx hb ht i_T ty_T ty_T_ok n_T hown hK hP hD hS 2 rfl rfl 8 (by decide) (ht _ k_132) (fun _ h9 => h9) rfl (ty_T_ok 8 (by decide)) rfl rfl (Nat.le_of_ble_eq_true rfl) d_T_skipGap_60 (fun H locs hP hD hS => ?_)
                have hP : va_P (dC, dI) cls (WE h g len fp many tlen (tat + 1) qlen md gat kind (.ref (k wi)) (.ref (k ti)) gs th st rq bl te og sc kd sr wo sa qb du) H := hP
                have hD : va_D A (WE h g len fp many tlen (tat + 1) qlen md gat kind (.ref (k wi)) (.ref (k ti)) gs th st rq bl te og sc kd sr wo sa qb du) := hD
                refine lv_goto (tgt := 146) hx hb d_T_skipGap_63 (by decide) ?_
                refine lv_iinc (v := (tu + 1)) (lv' := [(1, .int (tu + 1)), (2, .int r_4), (0, .ref (h 2))]) hx hb d_T_skipGap_146 hl (k := 1) rfl rfl (by decide) rfl (fun ls hl => ?_)
                have e_40 : Int32.toInt (tu + 1) = (Int32.toInt tu) + 1 := i_add rfl (show Int32.toInt 1 = 1 by decide) (by omega) (by omega)
                refine lv_goto (tgt := 2) hx hb d_T_skipGap_149 (by decide) ?_
                exact ih (tu + 1) (tat + 1) (by omega) (by omega) (by omega) (by omega) (by omega) _ _ ls hP hD hS (lv_sub hl [0, 2] rfl)
set_option maxHeartbeats 4000000 in
set_option maxRecDepth 100000 in
theorem bd_T_skipGap_0 {p : Program} {l : Launch} {e : Env} {s : State} {m : MethodId} {args : Array Value} {below : List Frame} {meth : Method} {c : Code} {Q : State → Prop} {A : Nat → Prop} {dC : Nat → ClassId} {dI : Nat → Nat → Nat} {k h : Nat → Nat} {g : Nat → ClassId} {len : Int32} {fp : Int32} {many : Int32} {tlen : Int32} {qlen : Int32} {md : Int32} {gat : Int32} {kind : Int32} {gs : Int32} {th : Int32} {st : Int32} {rq : Int32} {bl : Int32} {te : Int32} {og : Int32} {wi : Nat} {ti : Nat} {sc : Nat → Int32} {kd : Nat → Int32} {sr : Nat → Int32} {sa : Nat → Int32} {qb : Nat → Int32} {du : Nat → Int32} {wo : Nat → Option Nat} (hx : p.tables.exec = Jvm.exec) (hb : c.code = b_T_skipGap) (hml : c.maxLocals = 4) (hown : s.vm.findClass "SieveDesk$Tokens" = some m.cls) (ht : ∀ w ∈ TT, w.before args s = true) (hE : KE k A s s.heap) (hA : ∀ q : Nat, s.heap.size ≤ q → A q) (hK : va_K (dC, dI) cls (TE g) s)  (h_0 : 0 ≤ Int32.toInt tlen) (h_1 : Int32.toInt tlen ≤ 400) (fin : ∀ (u : Int32) (H : Heap) (locs : List Loc) (pc : Nat) (ls : Array Slot), decode b_T_skipGap pc = .ok (.return_, 1) → (0 ≤ Int32.toInt u ∧ Int32.toInt u ≤ Int32.toInt tlen) → va_P (dC, dI) cls (WE h g len fp many tlen u qlen md gat kind (.ref (k wi)) (.ref (k ti)) gs th st rq bl te og sc kd sr wo sa qb du) H → va_D A (WE h g len fp many tlen u qlen md gat kind (.ref (k wi)) (.ref (k ti)) gs th st rq bl te og sc kd sr wo sa qb du) → va_S A s.heap H locs → W p l e ({ frames := 2, cells := 0, slots := 0, locals := 43 } : Room) s m args below meth c H locs 0 0 Q (F0 m pc ls [])) : ∀ (tat : Int32), 0 ≤ Int32.toInt tat → Int32.toInt tat ≤ Int32.toInt tlen → ∀ (H : Heap) (locs : List Loc) (ls : Array Slot), va_P (dC, dI) cls (WE h g len fp many tlen tat qlen md gat kind (.ref (k wi)) (.ref (k ti)) gs th st rq bl te og sc kd sr wo sa qb du) H → va_D A (WE h g len fp many tlen tat qlen md gat kind (.ref (k wi)) (.ref (k ti)) gs th st rq bl te og sc kd sr wo sa qb du) → va_S A s.heap H locs → lv_has ls 4 [(0, .ref (h 2))] → W p l e ({ frames := 2, cells := 0, slots := 0, locals := 43 } : Room) s m args below meth c H locs 0 0 Q (F0 m 0 ls []) := by
  intro tat v_0 v_1 H locs ls hP hD hS hl
  refine lv_iconst (v := 0) hx hb d_T_skipGap_0 (by decide) ?_
  refine lv_istore_n (lv' := [(1, .int 0), (0, .ref (h 2))]) hx hb d_T_skipGap_1 rfl hl (by decide) rfl (fun ls hl => ?_)
  have hc_0 : Int32.toInt 0 = 0 := by decide
  exact (lp_T_skipGap_2  hx hb hml hown ht hE hA hK h_0 h_1 fin _) 0 tat (by omega) (by omega) (by omega) (by omega) (Nat.lt_succ_self _) _ _ ls hP hD hS (lv_sub hl [0, 1] rfl)
set_option maxHeartbeats 4000000 in
set_option maxRecDepth 100000 in
theorem c_T_skipGap (l : Launch) (dC : Nat → ClassId) (dI : Nat → Nat → Nat) (k : Nat → Nat) (h : Nat → Nat) (g : Nat → ClassId) (len : Int32) (fp : Int32) (many : Int32) (tlen : Int32) (tat : Int32) (qlen : Int32) (md : Int32) (gat : Int32) (kind : Int32) (gs : Int32) (th : Int32) (st : Int32) (rq : Int32) (bl : Int32) (te : Int32) (og : Int32) (wi : Nat) (ti : Nat) (sc : Nat → Int32) (kd : Nat → Int32) (sr : Nat → Int32) (sa : Nat → Int32) (qb : Nat → Int32) (du : Nat → Int32) (wo : Nat → Option Nat)  (sz : Nat) (h_0 : 0 ≤ Int32.toInt tlen) (h_1 : Int32.toInt tlen ≤ 400) (v_0 : 0 ≤ Int32.toInt tat) (v_1 : Int32.toInt tat ≤ Int32.toInt tlen) : Met l y_T_skipGap (.code y_T_skipGap b_T_skipGap 4 none :: TT) ({ frames := 2, cells := 0, slots := 0, locals := 43 }) (va_Pc [.ref (h 2)] (PX dC dI k (TE g) (WE h g len fp many tlen tat qlen md gat kind (.ref (k wi)) (.ref (k ti)) gs th st rq bl te og sc kd sr wo sa qb du) sz)) (va_Qv (fun u : Int32 => 0 ≤ Int32.toInt u ∧ Int32.toInt u ≤ Int32.toInt tlen) (fun u t => BX dC dI (TE g) (va_A (WE h g len fp many tlen tat qlen md gat kind (.ref (k wi)) (.ref (k ti)) gs th st rq bl te og sc kd sr wo sa qb du) sz) (WE h g len fp many tlen u qlen md gat kind (.ref (k wi)) (.ref (k ti)) gs th st rq bl te og sc kd sr wo sa qb du) t) (va_A (WE h g len fp many tlen tat qlen md gat kind (.ref (k wi)) (.ref (k ti)) gs th st rq bl te og sc kd sr wo sa qb du) sz)) 0 0 (va_A (WE h g len fp many tlen tat qlen md gat kind (.ref (k wi)) (.ref (k ti)) gs th st rq bl te og sc kd sr wo sa qb du) sz) := by
  refine Met.ofW (cc := b_T_skipGap) (maxL := 4) (ret := none) (by decide) rfl ?_
  intro p e s m args below meth c s₁ B hml hv
  obtain ⟨rfl, hsz, hE, hP, hK, hD0⟩ := hv
  have hx := B.exec
  have hb := B.bytes
  have hr := B.returns
  have ht : ∀ w ∈ TT, w.before _ s = true := fun w hw => atoms_spec (ws := .code y_T_skipGap b_T_skipGap 4 none :: TT) B.pre w (List.mem_cons_of_mem _ hw)
  have hown : s.vm.findClass "SieveDesk$Tokens" = some m.cls := findClass_of_methodNamed B.named
  have hlocks := B.notSynchronized
  subst hsz
  have hD := hD0.self (sz := s.heap.size)
  generalize hAe : va_A (WE h g len fp many tlen tat qlen md gat kind (.ref (k wi)) (.ref (k ti)) gs th st rq bl te og sc kd sr wo sa qb du) s.heap.size = A at hE hD ⊢
  have hA : ∀ q : Nat, s.heap.size ≤ q → A q := fun q h9 => by rw [← hAe]; exact Or.inr h9
  have hS : va_S A s.heap s.heap [] := va_S.rf
  have hl := lv_entry ([.ref (h 2)]) (n := 4) (Nat.le_of_ble_eq_true rfl)
  rw [lg_entry_eq]
  generalize (lg_sl ([.ref (h 2)]) ++ List.replicate (4 - (lg_sl ([.ref (h 2)])).length) Slot.unset).toArray = ls at hl ⊢
  have hl : lv_has ls 4 [(0, .ref (h 2))] := hl
  exact bd_T_skipGap_0  hx hb hml hown ht hE hA hK h_0 h_1 (fun u H locs pc ls hd hp hP hD hS => W.vret hx hb hr (fun t het hW => ⟨⟨u, rfl, hp, by rw [het]; exact hP, va_K.moved hW.alike hK, hD⟩, hS.F het⟩) hS.2.2 hd) tat v_0 v_1 _ _ ls hP hD hS hl
