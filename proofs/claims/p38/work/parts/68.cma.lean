def ct_232 : Ctr := (208, 0, 0, [.inl (0, 0)], [], [], [(.inl (some (1, 1)), [])])
theorem cm_232 {G : Gx} {X : Hi → Prop} (hX : okX X) (hM : ManOK G X) : CtOK G (hxM []) X mtL ct_232 := chk_ok (cts := []) 3000 ct_232 [] (hX.ok _) okMcL (fun _ h => nomatch h) rfl (by decide +kernel)  -- X10_ordersOf
def ct_233 : Ctr := (208, 0, 0, [.inl (1, 1)], [], [], [(.inl (some (1, 1)), [])])
theorem cm_233 {G : Gx} {X : Hi → Prop} (hX : okX X) (hM : ManOK G X) : CtOK G (hxM []) X mtL ct_233 := chk_ok (cts := []) 3000 ct_233 [] (hX.ok _) okMcL (fun _ h => nomatch h) rfl (by decide +kernel)  -- X10_ordersOf
def ct_234 : Ctr := (208, 0, 0, [.inl (2, 2)], [], [], [(.inl (some (2, 2)), [])])
theorem cm_234 {G : Gx} {X : Hi → Prop} (hX : okX X) (hM : ManOK G X) : CtOK G (hxM []) X mtL ct_234 := chk_ok (cts := []) 3000 ct_234 [] (hX.ok _) okMcL (fun _ h => nomatch h) rfl (by decide +kernel)  -- X10_ordersOf
def ct_235 : Ctr := (208, 0, 0, [.inl (3, 3)], [], [], [(.inl (some (6, 6)), [])])
theorem cm_235 {G : Gx} {X : Hi → Prop} (hX : okX X) (hM : ManOK G X) : CtOK G (hxM []) X mtL ct_235 := chk_ok (cts := []) 3000 ct_235 [] (hX.ok _) okMcL (fun _ h => nomatch h) rfl (by decide +kernel)  -- X10_ordersOf
def ct_236 : Ctr := (208, 0, 0, [.inl (4, 4)], [], [], [(.inl (some (24, 24)), [])])
theorem cm_236 {G : Gx} {X : Hi → Prop} (hX : okX X) (hM : ManOK G X) : CtOK G (hxM []) X mtL ct_236 := chk_ok (cts := []) 3000 ct_236 [] (hX.ok _) okMcL (fun _ h => nomatch h) rfl (by decide +kernel)  -- X10_ordersOf
def ct_237 : Ctr := (208, 0, 0, [.inl (5, 5)], [], [], [(.inl (some (120, 120)), [])])
theorem cm_237 {G : Gx} {X : Hi → Prop} (hX : okX X) (hM : ManOK G X) : CtOK G (hxM []) X mtL ct_237 := chk_ok (cts := []) 3000 ct_237 [] (hX.ok _) okMcL (fun _ h => nomatch h) rfl (by decide +kernel)  -- X10_ordersOf
