/-! the law's main method: where a pick is kept -/
set_option maxRecDepth 100000 in
set_option maxHeartbeats 4000000 in
theorem lk_lane {p : Program} {l : Launch} {e : Env} {s : State} {m : MethodId} {below : List Frame} {meth : Method} {c0 : Code} {Q : State → Prop} {g : Ge} {a0 o : Nat} (X : Cx p #[Value.ref a0] s m meth c0 g cL_law 28 RL ret 0) (ho : g.2.2 = o) {f : Pic} {cs ss tn : Nat} {σ ρ : Nat → Int32} {S P : Nat → Nat → Int32} {φ κ τ π q h t c w b b2 : Nat → Int32} {x y kd ki sd bx tq vv wy : Int32} {ms d : Nat} {B : Nat} (h186 : 186 ≤ cs) (hcM : cs + 2 ≤ 599000) (hsM : ss + 11 ≤ 7300000) (hq8 : q 8 = nI B) (hBB : B ≤ 20)
    (k1 : B < 10 → V p l e room_1 s m #[Value.ref a0] below meth c0 Q g 28 cs ss cs (ovr f o (yaL g o σ ρ S P φ κ τ π (upd q 8 (nI (B + 1))) h t c w b b2)) 1345 [some (.ref a0), some (.ref o), some (.ref (o + 179)), some (.ref (o + 180)), some (.ref (o + 181)), some (.ref (o + 182)), some (.ref (o + 183)), some (.ref (o + 184)), some (.ref (o + 185)), some (.int (nI tn)), some (.int x), some (.int y), some (.int kd), some (.int ki), some (.int sd), some (.int bx), some (.int tq), some (.int vv), some (.int (0 : Int32)), some (.int (nI ms)), some (.int (nI d)), some (.int wy), some (.int (nI B)), some (.ref (o + 184)), none, none, none, none] [])
    (k2 : 10 ≤ B → B < 20 → V p l e room_1 s m #[Value.ref a0] below meth c0 Q g 28 cs ss cs (ovr f o (yaL g o σ ρ S P φ κ τ π (upd q 8 (nI (B + 1))) h t c w b b2)) 1345 [some (.ref a0), some (.ref o), some (.ref (o + 179)), some (.ref (o + 180)), some (.ref (o + 181)), some (.ref (o + 182)), some (.ref (o + 183)), some (.ref (o + 184)), some (.ref (o + 185)), some (.int (nI tn)), some (.int x), some (.int y), some (.int kd), some (.int ki), some (.int sd), some (.int bx), some (.int tq), some (.int vv), some (.int (0 : Int32)), some (.int (nI ms)), some (.int (nI d)), some (.int wy), some (.int (nI (B - 10))), some (.ref (o + 185)), none, none, none, none] [])
    (k3 : B = 20 → V p l e room_1 s m #[Value.ref a0] below meth c0 Q g 28 cs ss cs (ovr f o (yaL g o σ ρ S P φ κ τ π q h t c w (enS (bsh b 54) 9 b2 6) (bsh b2 54))) 1345 [some (.ref a0), some (.ref o), some (.ref (o + 179)), some (.ref (o + 180)), some (.ref (o + 181)), some (.ref (o + 182)), some (.ref (o + 183)), some (.ref (o + 184)), some (.ref (o + 185)), some (.int (nI tn)), some (.int x), some (.int y), some (.int kd), some (.int ki), some (.int sd), some (.int bx), some (.int tq), some (.int vv), some (.int (0 : Int32)), some (.int (nI ms)), some (.int (nI d)), some (.int wy), some (.int (nI 9)), some (.ref (o + 185)), none, none, none, none] []) :
    V p l e room_1 s m #[Value.ref a0] below meth c0 Q g 28 cs ss cs (ovr f o (yaL g o σ ρ S P φ κ τ π q h t c w b b2)) 1207 [some (.ref a0), some (.ref o), some (.ref (o + 179)), some (.ref (o + 180)), some (.ref (o + 181)), some (.ref (o + 182)), some (.ref (o + 183)), some (.ref (o + 184)), some (.ref (o + 185)), some (.int (nI tn)), some (.int x), some (.int y), some (.int kd), some (.int ki), some (.int sd), some (.int bx), some (.int tq), some (.int vv), some (.int (0 : Int32)), some (.int (nI ms)), some (.int (nI d)), some (.int wy), none, none, none, none, none, none] [] := by
  have rc9 : 599000 ≤ room_1.cells := Nat.le_of_ble_eq_true rfl
  have rs9 : 7300000 ≤ room_1.slots := Nat.le_of_ble_eq_true rfl
  have hcs : cs + 0 ≤ room_1.cells ∧ ss + 0 ≤ room_1.slots := ⟨by omega, by omega⟩
  have hB : BB g cs o 186 := ⟨by rw [ho]; exact Nat.le_refl _, by rw [ho]; omega⟩
  refine v_aload_n X dL_law_1207 (i := 2) rfl rfl ?_
  refine v_bipush X dL_law_1208 (v := (8 : Int32)) (by decide) ?_
  refine v_ialdB X hB dL_law_1210 179 (Nat.le_of_ble_eq_true rfl) rfl 8 rfl (by omega) (Nat.le_of_ble_eq_true rfl) ?_
  refine v_bipush X dL_law_1211 (v := (10 : Int32)) (by decide) ?_
  refine v_irem X dL_law_1213 (by decide) ?_
  rw [show ((q 8) - (q 8) / (10 : Int32) * (10 : Int32)) = nI (B % 10) from by rw [hq8]; exact pk_rem (a := B) (d := 10) (by omega) (by omega) (by omega)]
  refine v_istore X dL_law_1214 (Nat.le_of_ble_eq_true rfl) rfl ?_
  refine v_aload_n X dL_law_1216 (i := 2) rfl rfl ?_
  refine v_bipush X dL_law_1217 (v := (8 : Int32)) (by decide) ?_
  refine v_ialdB X hB dL_law_1219 179 (Nat.le_of_ble_eq_true rfl) rfl 8 rfl (by omega) (Nat.le_of_ble_eq_true rfl) ?_
  refine v_bipush X dL_law_1220 (v := (20 : Int32)) (by decide) ?_
  refine v_icmp_ge X dL_law_1222 (tgt := 1236) (by decide) (fun c1222 => ?_) (fun c1222 => ?_)
  · skip
    have hB21 : B = 20 := by
      rw [hq8] at c1222
      have := le_of_nI (a := 20) (by omega) (by omega) c1222
      omega
    subst hB21
    refine v_iconst X dL_law_1236 (v := (0 : Int32)) (by decide) ?_
    refine v_istore X dL_law_1237 (Nat.le_of_ble_eq_true rfl) rfl ?_
    have LP1239 : ∀ (n_ : Nat) (i : Nat), (i ≤ 54) → 54 - i < n_ → V p l e room_1 s m #[Value.ref a0] below meth c0 Q g 28 cs ss cs (ovr f o (yaL g o σ ρ S P φ κ τ π q h t c w (bsh b i) b2)) 1239 [some (.ref a0), some (.ref o), some (.ref (o + 179)), some (.ref (o + 180)), some (.ref (o + 181)), some (.ref (o + 182)), some (.ref (o + 183)), some (.ref (o + 184)), some (.ref (o + 185)), some (.int (nI tn)), some (.int x), some (.int y), some (.int kd), some (.int ki), some (.int sd), some (.int bx), some (.int tq), some (.int vv), some (.int (0 : Int32)), some (.int (nI ms)), some (.int (nI d)), some (.int wy), some (.int (nI (20 % 10))), some (.int (nI i)), none, none, none, none] [] := by
      intro n_
      induction n_ with
      | zero => intro i hi hm_; exact absurd hm_ (Nat.not_lt_zero _)
      | succ n_ ih1239 =>
        intro i hi hm1239
        refine v_iload X dL_law_1239 rfl ?_
        refine v_bipush X dL_law_1241 (v := (54 : Int32)) (by decide) ?_
        refine v_icmp_ge X dL_law_1243 (tgt := 1265) (by decide) (fun c1243 => ?_) (fun c1243 => ?_)
        · skip
          have hi5 : i = 54 := Nat.le_antisymm hi (le_of_nI (a := 54) (by omega) (by omega) c1243)
          subst hi5
          refine v_iconst X dL_law_1265 (v := (0 : Int32)) (by decide) ?_
          refine v_istore X dL_law_1266 (Nat.le_of_ble_eq_true rfl) rfl ?_
          have LP1268 : ∀ (n_ : Nat) (i2 : Nat), (i2 ≤ 6) → 6 - i2 < n_ → V p l e room_1 s m #[Value.ref a0] below meth c0 Q g 28 cs ss cs (ovr f o (yaL g o σ ρ S P φ κ τ π q h t c w (enS (bsh b 54) 9 b2 i2) b2)) 1268 [some (.ref a0), some (.ref o), some (.ref (o + 179)), some (.ref (o + 180)), some (.ref (o + 181)), some (.ref (o + 182)), some (.ref (o + 183)), some (.ref (o + 184)), some (.ref (o + 185)), some (.int (nI tn)), some (.int x), some (.int y), some (.int kd), some (.int ki), some (.int sd), some (.int bx), some (.int tq), some (.int vv), some (.int (0 : Int32)), some (.int (nI ms)), some (.int (nI d)), some (.int wy), some (.int (nI (20 % 10))), some (.int (nI i2)), none, none, none, none] [] := by
            intro n_
            induction n_ with
            | zero => intro i2 hi2 hm_; exact absurd hm_ (Nat.not_lt_zero _)
            | succ n_ ih1268 =>
              intro i2 hi2 hm1268
              refine v_iload X dL_law_1268 rfl ?_
              refine v_bipush X dL_law_1270 (v := (6 : Int32)) (by decide) ?_
              refine v_icmp_ge X dL_law_1272 (tgt := 1294) (by decide) (fun c1272 => ?_) (fun c1272 => ?_)
              · skip
                have hi6 : i2 = 6 := Nat.le_antisymm hi2 (le_of_nI (a := 6) (by omega) (by omega) c1272)
                subst hi6
                refine v_iconst X dL_law_1294 (v := (0 : Int32)) (by decide) ?_
                refine v_istore X dL_law_1295 (Nat.le_of_ble_eq_true rfl) rfl ?_
                have LP1297 : ∀ (n_ : Nat) (i3 : Nat), (i3 ≤ 54) → 54 - i3 < n_ → V p l e room_1 s m #[Value.ref a0] below meth c0 Q g 28 cs ss cs (ovr f o (yaL g o σ ρ S P φ κ τ π q h t c w (enS (bsh b 54) 9 b2 6) (bsh b2 i3))) 1297 [some (.ref a0), some (.ref o), some (.ref (o + 179)), some (.ref (o + 180)), some (.ref (o + 181)), some (.ref (o + 182)), some (.ref (o + 183)), some (.ref (o + 184)), some (.ref (o + 185)), some (.int (nI tn)), some (.int x), some (.int y), some (.int kd), some (.int ki), some (.int sd), some (.int bx), some (.int tq), some (.int vv), some (.int (0 : Int32)), some (.int (nI ms)), some (.int (nI d)), some (.int wy), some (.int (nI (20 % 10))), some (.int (nI i3)), none, none, none, none] [] := by
                  intro n_
                  induction n_ with
                  | zero => intro i3 hi3 hm_; exact absurd hm_ (Nat.not_lt_zero _)
                  | succ n_ ih1297 =>
                    intro i3 hi3 hm1297
                    refine v_iload X dL_law_1297 rfl ?_
                    refine v_bipush X dL_law_1299 (v := (54 : Int32)) (by decide) ?_
                    refine v_icmp_ge X dL_law_1301 (tgt := 1323) (by decide) (fun c1301 => ?_) (fun c1301 => ?_)
                    · skip
                      have hi7 : i3 = 54 := Nat.le_antisymm hi3 (le_of_nI (a := 54) (by omega) (by omega) c1301)
                      subst hi7
                      refine v_bipush X dL_law_1323 (v := (9 : Int32)) (by decide) ?_
                      refine v_istore X dL_law_1325 (Nat.le_of_ble_eq_true rfl) rfl ?_
                      refine v_aload_n X dL_law_1327 (i := 2) rfl rfl ?_
                      refine v_bipush X dL_law_1328 (v := (8 : Int32)) (by decide) ?_
                      refine v_ialdB X hB dL_law_1330 179 (Nat.le_of_ble_eq_true rfl) rfl 8 rfl (by omega) (Nat.le_of_ble_eq_true rfl) ?_
                      refine v_bipush X dL_law_1331 (v := (10 : Int32)) (by decide) ?_
                      refine v_icmp_le X dL_law_1333 (tgt := 1341) (by decide) (fun c1333 => ?_) (fun c1333 => ?_)
                      · skip
                        exact absurd c1333 (by rw [hq8]; decide)
                      · skip
                        refine v_aload X dL_law_1336 rfl ?_
                        refine v_goto X dL_law_1338 (tgt := 1343) (by decide) ?_
                        refine v_astore X dL_law_1343 (Nat.le_of_ble_eq_true rfl) rfl ?_
                        exact k3 rfl
                    · skip
                      have hi7 : i3 < 54 := lt_of_nI (b := 54) (by omega) (by omega) c1301
                      refine v_aload X dL_law_1304 rfl ?_
                      refine v_iload X dL_law_1306 rfl ?_
                      refine v_aload X dL_law_1308 rfl ?_
                      refine v_iload X dL_law_1310 rfl ?_
                      refine v_bipush X dL_law_1312 (v := (6 : Int32)) (by decide) ?_
                      refine v_iadd X dL_law_1314 ?_
                      refine v_ialdB X hB dL_law_1315 185 (Nat.le_of_ble_eq_true rfl) rfl (i3 + 6) (ix_add rfl rfl) (by omega) (Nat.le_of_ble_eq_true rfl) ?_
                      refine v_iastB X hB dL_law_1316 185 (Nat.le_of_ble_eq_true rfl) rfl i3 rfl (by omega) (Nat.le_of_ble_eq_true rfl) (L' := (yaL g o σ ρ S P φ κ τ π q h t c w (enS (bsh b 54) 9 b2 6) (upd (bsh b2 i3) i3 ((bsh b2 i3) (i3 + 6))))) rfl ?_
                      refine v_iinc X dL_law_1317 (v := nI (i3 + 1)) rfl (ix_inc rfl) (Nat.le_of_ble_eq_true rfl) rfl ?_
                      refine v_goto X dL_law_1320 (tgt := 1297) (by decide) ?_
                      exact V.cast (ih1297 (i3 + 1) (by omega) (by omega)) (rfl) (rfl) (by rw [bsh_s] <;> rfl)
                exact V.cast (LP1297 _ 0 (Nat.zero_le _) (Nat.lt_succ_self _)) (rfl) (rfl) (by rw [bsh_0] <;> rfl)
              · skip
                have hi6 : i2 < 6 := lt_of_nI (b := 6) (by omega) (by omega) c1272
                refine v_aload X dL_law_1275 rfl ?_
                refine v_bipush X dL_law_1277 (v := (54 : Int32)) (by decide) ?_
                refine v_iload X dL_law_1279 rfl ?_
                refine v_iadd X dL_law_1281 ?_
                refine v_aload X dL_law_1282 rfl ?_
                refine v_iload X dL_law_1284 rfl ?_
                refine v_ialdB X hB dL_law_1286 185 (Nat.le_of_ble_eq_true rfl) rfl i2 rfl (by omega) (Nat.le_of_ble_eq_true rfl) ?_
                refine v_iastB X hB dL_law_1287 184 (Nat.le_of_ble_eq_true rfl) rfl (54 + i2) (ix_add rfl rfl) (by omega) (Nat.le_of_ble_eq_true rfl) (L' := (yaL g o σ ρ S P φ κ τ π q h t c w (upd (enS (bsh b 54) 9 b2 i2) (54 + i2) (b2 i2)) b2)) rfl ?_
                refine v_iinc X dL_law_1288 (v := nI (i2 + 1)) rfl (ix_inc rfl) (Nat.le_of_ble_eq_true rfl) rfl ?_
                refine v_goto X dL_law_1291 (tgt := 1268) (by decide) ?_
                exact V.cast (ih1268 (i2 + 1) (by omega) (by omega)) (rfl) (rfl) (by rw [← enS_s] <;> rfl)
          exact V.cast (LP1268 _ 0 (Nat.zero_le _) (Nat.lt_succ_self _)) (rfl) (rfl) (by rw [enS_0] <;> rfl)
        · skip
          have hi5 : i < 54 := lt_of_nI (b := 54) (by omega) (by omega) c1243
          refine v_aload X dL_law_1246 rfl ?_
          refine v_iload X dL_law_1248 rfl ?_
          refine v_aload X dL_law_1250 rfl ?_
          refine v_iload X dL_law_1252 rfl ?_
          refine v_bipush X dL_law_1254 (v := (6 : Int32)) (by decide) ?_
          refine v_iadd X dL_law_1256 ?_
          refine v_ialdB X hB dL_law_1257 184 (Nat.le_of_ble_eq_true rfl) rfl (i + 6) (ix_add rfl rfl) (by omega) (Nat.le_of_ble_eq_true rfl) ?_
          refine v_iastB X hB dL_law_1258 184 (Nat.le_of_ble_eq_true rfl) rfl i rfl (by omega) (Nat.le_of_ble_eq_true rfl) (L' := (yaL g o σ ρ S P φ κ τ π q h t c w (upd (bsh b i) i ((bsh b i) (i + 6))) b2)) rfl ?_
          refine v_iinc X dL_law_1259 (v := nI (i + 1)) rfl (ix_inc rfl) (Nat.le_of_ble_eq_true rfl) rfl ?_
          refine v_goto X dL_law_1262 (tgt := 1239) (by decide) ?_
          exact V.cast (ih1239 (i + 1) (by omega) (by omega)) (rfl) (rfl) (by rw [bsh_s] <;> rfl)
    exact V.cast (LP1239 _ 0 (Nat.zero_le _) (Nat.lt_succ_self _)) (rfl) (rfl) (by rw [bsh_0] <;> rfl)
  · skip
    have hB20 : B < 20 := by
      rw [hq8] at c1222
      exact lt_of_nI (b := 20) (by omega) (by omega) c1222
    refine v_aload_n X dL_law_1225 (i := 2) rfl rfl ?_
    refine v_bipush X dL_law_1226 (v := (8 : Int32)) (by decide) ?_
    refine v_dup2 X dL_law_1228 rfl rfl ?_
    refine v_ialdB X hB dL_law_1229 179 (Nat.le_of_ble_eq_true rfl) rfl 8 rfl (by omega) (Nat.le_of_ble_eq_true rfl) ?_
    refine v_iconst X dL_law_1230 (v := (1 : Int32)) (by decide) ?_
    refine v_iadd X dL_law_1231 ?_
    rw [show ((q 8) + (1 : Int32)) = nI (B + 1) from ix_add hq8 rfl]
    refine v_iastB X hB dL_law_1232 179 (Nat.le_of_ble_eq_true rfl) rfl 8 rfl (by omega) (Nat.le_of_ble_eq_true rfl) (L' := (yaL g o σ ρ S P φ κ τ π (upd q 8 (nI (B + 1))) h t c w b b2)) rfl ?_
    refine v_goto X dL_law_1233 (tgt := 1327) (by decide) ?_
    refine v_aload_n X dL_law_1327 (i := 2) rfl rfl ?_
    refine v_bipush X dL_law_1328 (v := (8 : Int32)) (by decide) ?_
    refine v_ialdB X hB dL_law_1330 179 (Nat.le_of_ble_eq_true rfl) rfl 8 rfl (by omega) (Nat.le_of_ble_eq_true rfl) ?_
    refine v_bipush X dL_law_1331 (v := (10 : Int32)) (by decide) ?_
    refine v_icmp_le X dL_law_1333 (tgt := 1341) (by decide) (fun c1333 => ?_) (fun c1333 => ?_)
    · skip
      have hB10 : B < 10 := by
        have z := c1333
        rw [pk_us] at z
        have := le_of_nI (b := 10) (by omega) (by omega) z
        omega
      rw [show B % 10 = B by omega]
      refine v_aload X dL_law_1341 rfl ?_
      refine v_astore X dL_law_1343 (Nat.le_of_ble_eq_true rfl) rfl ?_
      exact k1 hB10
    · skip
      have hB10 : 10 ≤ B := by
        have z := c1333
        rw [pk_us] at z
        have := lt_of_nI (a := 10) (by omega) (by omega) z
        omega
      rw [show B % 10 = B - 10 by omega]
      refine v_aload X dL_law_1336 rfl ?_
      refine v_goto X dL_law_1338 (tgt := 1343) (by decide) ?_
      refine v_astore X dL_law_1343 (Nat.le_of_ble_eq_true rfl) rfl ?_
      exact k2 hB10 hB20
theorem lk_w1 {p : Program} {l : Launch} {e : Env} {s : State} {m : MethodId} {below : List Frame} {meth : Method} {c0 : Code} {Q : State → Prop} {g : Ge} {a0 o : Nat} (X : Cx p #[Value.ref a0] s m meth c0 g cL_law 28 RL ret 0) (ho : g.2.2 = o) {f : Pic} {cs ss tn : Nat} {σ ρ : Nat → Int32} {S P : Nat → Nat → Int32} {φ κ τ π q h t c w b b2 : Nat → Int32} {x y kd ki sd bx tq vv wy : Int32} {ms d : Nat} {B C P0 k9 : Nat} (h186 : 186 ≤ cs) (hcM : cs + 2 ≤ 599000) (hsM : ss + 11 ≤ 7300000) (hq8 : q 8 = nI B) (hBB : B ≤ 20) (hq0 : q 0 = nI C) (hq1 : q 1 = nI P0) (hP : P0 < C) (hC16 : C ≤ 16) (hk9 : k9 < 5) (hfl : flA h c P0 = nI k9)
    (kk : ∀ (f : Pic) (q1 b1 b3 : Nat → Int32), q1 8 = nI (if B < 20 then B + 1 else 20) → (∀ i, i ≠ 8 → q1 i = q i) → EOP b b2 b1 b3 B → ENP b1 b3 (enV q1 h k9) B → V p l e room_1 s m #[Value.ref a0] below meth c0 Q g 28 (cs + 1 + 1) (ss + 6 + 5) (cs + 1 + 1) (ovr f o (yaL g o σ ρ S P φ κ τ π (pkQ q1 c P0) (pkH h c P0 k9) (pkT q1 c P0 t 12) c w b1 b3)) 1479 [some (.ref a0), some (.ref o), some (.ref (o + 179)), some (.ref (o + 180)), some (.ref (o + 181)), some (.ref (o + 182)), some (.ref (o + 183)), some (.ref (o + 184)), some (.ref (o + 185)), some (.int (nI tn)), some (.int x), some (.int y), some (.int kd), some (.int ki), some (.int sd), some (.int bx), some (.int tq), some (.int vv), some (.int (0 : Int32)), some (.int (nI ms)), some (.int (nI d)), some (.int wy), none, none, none, none, some (.int (nI k9)), none] []) :
    V p l e room_1 s m #[Value.ref a0] below meth c0 Q g 28 cs ss cs (ovr f o (yaL g o σ ρ S P φ κ τ π q h t c w b b2)) 1207 [some (.ref a0), some (.ref o), some (.ref (o + 179)), some (.ref (o + 180)), some (.ref (o + 181)), some (.ref (o + 182)), some (.ref (o + 183)), some (.ref (o + 184)), some (.ref (o + 185)), some (.int (nI tn)), some (.int x), some (.int y), some (.int kd), some (.int ki), some (.int sd), some (.int bx), some (.int tq), some (.int vv), some (.int (0 : Int32)), some (.int (nI ms)), some (.int (nI d)), some (.int wy), none, none, none, none, none, none] [] := by
  refine lk_lane X ho h186 hcM hsM hq8 hBB (fun h1 => ?_) (fun h1 h2 => ?_) (fun h1 => ?_)
  · refine lk_sv1 X ho (aw := o + cs) rfl h186 hcM hsM h1 ((pk_un (by omega)).trans hq0) ((pk_un (by omega)).trans hq1) hP hC16 hk9 hfl (fun f => ?_)
    exact kk f _ _ _ (by rw [pk_us, if_pos (by omega)]) (fun i hi => pk_un hi) (en_A1 h1).1 (en_A1 h1).2
  · refine lk_sv2 X ho (aw := o + cs) rfl h186 hcM hsM (show B - 10 < 10 by omega) ((pk_un (by omega)).trans hq0) ((pk_un (by omega)).trans hq1) hP hC16 hk9 hfl (fun f => ?_)
    exact kk f _ _ _ (by rw [pk_us, if_pos (by omega)]) (fun i hi => pk_un hi) (en_A2 h1 h2).1 (en_A2 h1 h2).2
  · subst h1
    refine lk_sv2 X ho (aw := o + cs) rfl h186 hcM hsM (show 9 < 10 by omega) hq0 hq1 hP hC16 hk9 hfl (fun f => ?_)
    exact kk f _ _ _ (by rw [hq8, if_neg (by omega)]) (fun i hi => rfl) en_B.1 en_B.2
