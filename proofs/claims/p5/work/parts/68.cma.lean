def ct_319 : Ctr := (208, 0, 0, [.inl (0, 0)], [], [], [(.inl (some (1, 1)), [])])
theorem cm_319 {G : Gx} {X : Hi → Prop} (hX : okX X) (hM : ManOK G X) : CtOK G (hxM []) X mtL ct_319 := chk_ok (cts := []) 3000 ct_319 [] (hX.ok _) okMcL (fun _ h => nomatch h) rfl (by decide +kernel)  -- X10_ordersOf
def ct_320 : Ctr := (208, 0, 0, [.inl (1, 1)], [], [], [(.inl (some (1, 1)), [])])
theorem cm_320 {G : Gx} {X : Hi → Prop} (hX : okX X) (hM : ManOK G X) : CtOK G (hxM []) X mtL ct_320 := chk_ok (cts := []) 3000 ct_320 [] (hX.ok _) okMcL (fun _ h => nomatch h) rfl (by decide +kernel)  -- X10_ordersOf
def ct_321 : Ctr := (208, 0, 0, [.inl (2, 2)], [], [], [(.inl (some (2, 2)), [])])
theorem cm_321 {G : Gx} {X : Hi → Prop} (hX : okX X) (hM : ManOK G X) : CtOK G (hxM []) X mtL ct_321 := chk_ok (cts := []) 3000 ct_321 [] (hX.ok _) okMcL (fun _ h => nomatch h) rfl (by decide +kernel)  -- X10_ordersOf
def ct_322 : Ctr := (208, 0, 0, [.inl (3, 3)], [], [], [(.inl (some (6, 6)), [])])
theorem cm_322 {G : Gx} {X : Hi → Prop} (hX : okX X) (hM : ManOK G X) : CtOK G (hxM []) X mtL ct_322 := chk_ok (cts := []) 3000 ct_322 [] (hX.ok _) okMcL (fun _ h => nomatch h) rfl (by decide +kernel)  -- X10_ordersOf
def ct_323 : Ctr := (208, 0, 0, [.inl (4, 4)], [], [], [(.inl (some (24, 24)), [])])
theorem cm_323 {G : Gx} {X : Hi → Prop} (hX : okX X) (hM : ManOK G X) : CtOK G (hxM []) X mtL ct_323 := chk_ok (cts := []) 3000 ct_323 [] (hX.ok _) okMcL (fun _ h => nomatch h) rfl (by decide +kernel)  -- X10_ordersOf
def ct_324 : Ctr := (208, 0, 0, [.inl (5, 5)], [], [], [(.inl (some (120, 120)), [])])
theorem cm_324 {G : Gx} {X : Hi → Prop} (hX : okX X) (hM : ManOK G X) : CtOK G (hxM []) X mtL ct_324 := chk_ok (cts := []) 3000 ct_324 [] (hX.ok _) okMcL (fun _ h => nomatch h) rfl (by decide +kernel)  -- X10_ordersOf
