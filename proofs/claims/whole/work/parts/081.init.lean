/-! constructors -/
section XPF
variable {p : Program} {l : Launch} {e : Env} {R : Room} {s : State} {m : MethodId} {args : Array Value} {below : List Frame} {meth : Method} {c : Code} {H : Heap} {locs : List Loc} {cells slots : Nat} {Q : State → Prop}
variable {cc : ByteArray} {pc : Nat} {ls : Array Slot} {rest : List Value} {D : va_G} {A : Nat → Prop} {tys : List (ClassId × FieldType)} {H0 : Heap} {ad : Nat → Nat} {N : Nat} {w : Nat → va_E}
theorem pF_X0_9 (hx : p.tables.exec = Jvm.exec) (hb : c.code = cc) (hts : ∀ w ∈ wsL_law, w.before args s = true) (hown : s.vm.findClass RX0 = some m.cls) (hin : meth.name = "<init>") (hw : WW D vwCl tys A H0 ad N w s H locs) {k0 : Nat} {fs : List Value} (hk0 : k0 < N) (he : w k0 = .inr (0, fs)) {a : Nat} (hl : 0 < fs.length) (hdg : decode cc pc = .ok (.putfield 9, 3)) (kk : ∀ (w1 : Nat → va_E) (H1 : Heap) (locs1 : List Loc), w1 = va_up w k0 (.inr (0, fs.set 0 (.ref a))) → WW D vwCl tys A H0 ad N w1 s H1 locs1 → W p l e R s m args below meth c H1 locs1 cells slots Q (F0 m (pc + 3) ls rest)) : W p l e R s m args below meth c H locs cells slots Q (F0 m pc ls (.ref a :: .ref (ad k0) :: rest)) :=
  x_putF (ty := .array .int) hx hb hts inlX0 tyX0 tyX0_ok nmX0 hown hw hk0 he rfl 0 (by decide) (hts _ fl_X0_9) (fun _ h => h) rfl hin rfl (by decide +kernel) rfl rfl hl hdg kk
theorem pF_X0_15 (hx : p.tables.exec = Jvm.exec) (hb : c.code = cc) (hts : ∀ w ∈ wsL_law, w.before args s = true) (hown : s.vm.findClass RX0 = some m.cls) (hin : meth.name = "<init>") (hw : WW D vwCl tys A H0 ad N w s H locs) {k0 : Nat} {fs : List Value} (hk0 : k0 < N) (he : w k0 = .inr (0, fs)) {a : Nat} (hl : 1 < fs.length) (hdg : decode cc pc = .ok (.putfield 15, 3)) (kk : ∀ (w1 : Nat → va_E) (H1 : Heap) (locs1 : List Loc), w1 = va_up w k0 (.inr (0, fs.set 1 (.ref a))) → WW D vwCl tys A H0 ad N w1 s H1 locs1 → W p l e R s m args below meth c H1 locs1 cells slots Q (F0 m (pc + 3) ls rest)) : W p l e R s m args below meth c H locs cells slots Q (F0 m pc ls (.ref a :: .ref (ad k0) :: rest)) :=
  x_putF (ty := .array .int) hx hb hts inlX0 tyX0 tyX0_ok nmX0 hown hw hk0 he rfl 1 (by decide) (hts _ fl_X0_15) (fun _ h => h) rfl hin rfl (by decide +kernel) rfl rfl hl hdg kk
theorem pF_X0_18 (hx : p.tables.exec = Jvm.exec) (hb : c.code = cc) (hts : ∀ w ∈ wsL_law, w.before args s = true) (hown : s.vm.findClass RX0 = some m.cls) (hin : meth.name = "<init>") (hw : WW D vwCl tys A H0 ad N w s H locs) {k0 : Nat} {fs : List Value} (hk0 : k0 < N) (he : w k0 = .inr (0, fs)) {a : Nat} (hl : 2 < fs.length) (hdg : decode cc pc = .ok (.putfield 18, 3)) (kk : ∀ (w1 : Nat → va_E) (H1 : Heap) (locs1 : List Loc), w1 = va_up w k0 (.inr (0, fs.set 2 (.ref a))) → WW D vwCl tys A H0 ad N w1 s H1 locs1 → W p l e R s m args below meth c H1 locs1 cells slots Q (F0 m (pc + 3) ls rest)) : W p l e R s m args below meth c H locs cells slots Q (F0 m pc ls (.ref a :: .ref (ad k0) :: rest)) :=
  x_putF (ty := .array .int) hx hb hts inlX0 tyX0 tyX0_ok nmX0 hown hw hk0 he rfl 2 (by decide) (hts _ fl_X0_18) (fun _ h => h) rfl hin rfl (by decide +kernel) rfl rfl hl hdg kk
theorem pF_X2_9 (hx : p.tables.exec = Jvm.exec) (hb : c.code = cc) (hts : ∀ w ∈ wsL_law, w.before args s = true) (hown : s.vm.findClass RX2 = some m.cls) (hin : meth.name = "<init>") (hw : WW D vwCl tys A H0 ad N w s H locs) {k0 : Nat} {fs : List Value} (hk0 : k0 < N) (he : w k0 = .inr (1, fs)) {a : Nat} (hl : 0 < fs.length) (hdg : decode cc pc = .ok (.putfield 9, 3)) (kk : ∀ (w1 : Nat → va_E) (H1 : Heap) (locs1 : List Loc), w1 = va_up w k0 (.inr (1, fs.set 0 (.ref a))) → WW D vwCl tys A H0 ad N w1 s H1 locs1 → W p l e R s m args below meth c H1 locs1 cells slots Q (F0 m (pc + 3) ls rest)) : W p l e R s m args below meth c H locs cells slots Q (F0 m pc ls (.ref a :: .ref (ad k0) :: rest)) :=
  x_putF (ty := .array .long) hx hb hts inlX2 tyX2 tyX2_ok nmX2 hown hw hk0 he rfl 0 (by decide) (hts _ fl_X2_9) (fun _ h => h) rfl hin rfl (by decide +kernel) rfl rfl hl hdg kk
theorem pF_X2_15 (hx : p.tables.exec = Jvm.exec) (hb : c.code = cc) (hts : ∀ w ∈ wsL_law, w.before args s = true) (hown : s.vm.findClass RX2 = some m.cls) (hin : meth.name = "<init>") (hw : WW D vwCl tys A H0 ad N w s H locs) {k0 : Nat} {fs : List Value} (hk0 : k0 < N) (he : w k0 = .inr (1, fs)) {a : Nat} (hl : 1 < fs.length) (hdg : decode cc pc = .ok (.putfield 15, 3)) (kk : ∀ (w1 : Nat → va_E) (H1 : Heap) (locs1 : List Loc), w1 = va_up w k0 (.inr (1, fs.set 1 (.ref a))) → WW D vwCl tys A H0 ad N w1 s H1 locs1 → W p l e R s m args below meth c H1 locs1 cells slots Q (F0 m (pc + 3) ls rest)) : W p l e R s m args below meth c H locs cells slots Q (F0 m pc ls (.ref a :: .ref (ad k0) :: rest)) :=
  x_putF (ty := .array .int) hx hb hts inlX2 tyX2 tyX2_ok nmX2 hown hw hk0 he rfl 1 (by decide) (hts _ fl_X2_15) (fun _ h => h) rfl hin rfl (by decide +kernel) rfl rfl hl hdg kk
theorem pF_X2_19 (hx : p.tables.exec = Jvm.exec) (hb : c.code = cc) (hts : ∀ w ∈ wsL_law, w.before args s = true) (hown : s.vm.findClass RX2 = some m.cls) (hin : meth.name = "<init>") (hw : WW D vwCl tys A H0 ad N w s H locs) {k0 : Nat} {fs : List Value} (hk0 : k0 < N) (he : w k0 = .inr (1, fs)) {a : Nat} (hl : 2 < fs.length) (hdg : decode cc pc = .ok (.putfield 19, 3)) (kk : ∀ (w1 : Nat → va_E) (H1 : Heap) (locs1 : List Loc), w1 = va_up w k0 (.inr (1, fs.set 2 (.ref a))) → WW D vwCl tys A H0 ad N w1 s H1 locs1 → W p l e R s m args below meth c H1 locs1 cells slots Q (F0 m (pc + 3) ls rest)) : W p l e R s m args below meth c H locs cells slots Q (F0 m pc ls (.ref a :: .ref (ad k0) :: rest)) :=
  x_putF (ty := .array .int) hx hb hts inlX2 tyX2 tyX2_ok nmX2 hown hw hk0 he rfl 2 (by decide) (hts _ fl_X2_19) (fun _ h => h) rfl hin rfl (by decide +kernel) rfl rfl hl hdg kk
theorem pF_X4_11 (hx : p.tables.exec = Jvm.exec) (hb : c.code = cc) (hts : ∀ w ∈ wsL_law, w.before args s = true) (hown : s.vm.findClass RX4 = some m.cls) (hin : meth.name = "<init>") (hw : WW D vwCl tys A H0 ad N w s H locs) {k0 : Nat} {fs : List Value} (hk0 : k0 < N) (he : w k0 = .inr (3, fs)) {a : Nat} (hl : 0 < fs.length) (hdg : decode cc pc = .ok (.putfield 11, 3)) (kk : ∀ (w1 : Nat → va_E) (H1 : Heap) (locs1 : List Loc), w1 = va_up w k0 (.inr (3, fs.set 0 (.ref a))) → WW D vwCl tys A H0 ad N w1 s H1 locs1 → W p l e R s m args below meth c H1 locs1 cells slots Q (F0 m (pc + 3) ls rest)) : W p l e R s m args below meth c H locs cells slots Q (F0 m pc ls (.ref a :: .ref (ad k0) :: rest)) :=
  x_putF (ty := .array (.object "BeaconRing$Dealer")) hx hb hts inlX4 tyX4 tyX4_ok nmX4 hown hw hk0 he rfl 0 (by decide) (hts _ fl_X4_11) (fun _ h => h) rfl hin rfl (by decide +kernel) rfl rfl hl hdg kk
theorem pF_X4_16 (hx : p.tables.exec = Jvm.exec) (hb : c.code = cc) (hts : ∀ w ∈ wsL_law, w.before args s = true) (hown : s.vm.findClass RX4 = some m.cls) (hin : meth.name = "<init>") (hw : WW D vwCl tys A H0 ad N w s H locs) {k0 : Nat} {fs : List Value} (hk0 : k0 < N) (he : w k0 = .inr (3, fs)) {a : Nat} (hl : 1 < fs.length) (hdg : decode cc pc = .ok (.putfield 16, 3)) (kk : ∀ (w1 : Nat → va_E) (H1 : Heap) (locs1 : List Loc), w1 = va_up w k0 (.inr (3, fs.set 1 (.ref a))) → WW D vwCl tys A H0 ad N w1 s H1 locs1 → W p l e R s m args below meth c H1 locs1 cells slots Q (F0 m (pc + 3) ls rest)) : W p l e R s m args below meth c H locs cells slots Q (F0 m pc ls (.ref a :: .ref (ad k0) :: rest)) :=
  x_putF (ty := .array .int) hx hb hts inlX4 tyX4 tyX4_ok nmX4 hown hw hk0 he rfl 1 (by decide) (hts _ fl_X4_16) (fun _ h => h) rfl hin rfl (by decide +kernel) rfl rfl hl hdg kk
theorem pF_X4_20 (hx : p.tables.exec = Jvm.exec) (hb : c.code = cc) (hts : ∀ w ∈ wsL_law, w.before args s = true) (hown : s.vm.findClass RX4 = some m.cls) (hin : meth.name = "<init>") (hw : WW D vwCl tys A H0 ad N w s H locs) {k0 : Nat} {fs : List Value} (hk0 : k0 < N) (he : w k0 = .inr (3, fs)) {a : Nat} (hl : 2 < fs.length) (hdg : decode cc pc = .ok (.putfield 20, 3)) (kk : ∀ (w1 : Nat → va_E) (H1 : Heap) (locs1 : List Loc), w1 = va_up w k0 (.inr (3, fs.set 2 (.ref a))) → WW D vwCl tys A H0 ad N w1 s H1 locs1 → W p l e R s m args below meth c H1 locs1 cells slots Q (F0 m (pc + 3) ls rest)) : W p l e R s m args below meth c H locs cells slots Q (F0 m pc ls (.ref a :: .ref (ad k0) :: rest)) :=
  x_putF (ty := .array .int) hx hb hts inlX4 tyX4 tyX4_ok nmX4 hown hw hk0 he rfl 2 (by decide) (hts _ fl_X4_20) (fun _ h => h) rfl hin rfl (by decide +kernel) rfl rfl hl hdg kk
theorem pF_X4_26 (hx : p.tables.exec = Jvm.exec) (hb : c.code = cc) (hts : ∀ w ∈ wsL_law, w.before args s = true) (hown : s.vm.findClass RX4 = some m.cls) (hin : meth.name = "<init>") (hw : WW D vwCl tys A H0 ad N w s H locs) {k0 : Nat} {fs : List Value} (hk0 : k0 < N) (he : w k0 = .inr (3, fs)) {a : Nat} (hl : 3 < fs.length) (hdg : decode cc pc = .ok (.putfield 26, 3)) (kk : ∀ (w1 : Nat → va_E) (H1 : Heap) (locs1 : List Loc), w1 = va_up w k0 (.inr (3, fs.set 3 (.ref a))) → WW D vwCl tys A H0 ad N w1 s H1 locs1 → W p l e R s m args below meth c H1 locs1 cells slots Q (F0 m (pc + 3) ls rest)) : W p l e R s m args below meth c H locs cells slots Q (F0 m pc ls (.ref a :: .ref (ad k0) :: rest)) :=
  x_putF (ty := .object "BeaconRing$Rounds") hx hb hts inlX4 tyX4 tyX4_ok nmX4 hown hw hk0 he rfl 3 (by decide) (hts _ fl_X4_26) (fun _ h => h) rfl hin rfl (by decide +kernel) rfl rfl hl hdg kk
theorem pF_X4_33 (hx : p.tables.exec = Jvm.exec) (hb : c.code = cc) (hts : ∀ w ∈ wsL_law, w.before args s = true) (hown : s.vm.findClass RX4 = some m.cls) (hin : meth.name = "<init>") (hw : WW D vwCl tys A H0 ad N w s H locs) {k0 : Nat} {fs : List Value} (hk0 : k0 < N) (he : w k0 = .inr (3, fs)) {a : Nat} (hl : 4 < fs.length) (hdg : decode cc pc = .ok (.putfield 33, 3)) (kk : ∀ (w1 : Nat → va_E) (H1 : Heap) (locs1 : List Loc), w1 = va_up w k0 (.inr (3, fs.set 4 (.ref a))) → WW D vwCl tys A H0 ad N w1 s H1 locs1 → W p l e R s m args below meth c H1 locs1 cells slots Q (F0 m (pc + 3) ls rest)) : W p l e R s m args below meth c H locs cells slots Q (F0 m pc ls (.ref a :: .ref (ad k0) :: rest)) :=
  x_putF (ty := .object "BeaconRing$Statement") hx hb hts inlX4 tyX4 tyX4_ok nmX4 hown hw hk0 he rfl 4 (by decide) (hts _ fl_X4_33) (fun _ h => h) rfl hin rfl (by decide +kernel) rfl rfl hl hdg kk
theorem pF_X5_7 (hx : p.tables.exec = Jvm.exec) (hb : c.code = cc) (hts : ∀ w ∈ wsL_law, w.before args s = true) (hown : s.vm.findClass RX5 = some m.cls) (hin : meth.name = "<init>") (hw : WW D vwCl tys A H0 ad N w s H locs) {k0 : Nat} {fs : List Value} (hk0 : k0 < N) (he : w k0 = .inr (4, fs)) {a : Nat} (hl : 4 < fs.length) (hdg : decode cc pc = .ok (.putfield 7, 3)) (kk : ∀ (w1 : Nat → va_E) (H1 : Heap) (locs1 : List Loc), w1 = va_up w k0 (.inr (4, fs.set 4 (.ref a))) → WW D vwCl tys A H0 ad N w1 s H1 locs1 → W p l e R s m args below meth c H1 locs1 cells slots Q (F0 m (pc + 3) ls rest)) : W p l e R s m args below meth c H locs cells slots Q (F0 m pc ls (.ref a :: .ref (ad k0) :: rest)) :=
  x_putF (ty := .array .boolean) hx hb hts inlX5 tyX5 tyX5_ok nmX5 hown hw hk0 he rfl 4 (by decide) (hts _ fl_X5_7) (fun _ h => h) rfl hin rfl (by decide +kernel) rfl rfl hl hdg kk
theorem pF_X5_13 (hx : p.tables.exec = Jvm.exec) (hb : c.code = cc) (hts : ∀ w ∈ wsL_law, w.before args s = true) (hown : s.vm.findClass RX5 = some m.cls) (hin : meth.name = "<init>") (hw : WW D vwCl tys A H0 ad N w s H locs) {k0 : Nat} {fs : List Value} (hk0 : k0 < N) (he : w k0 = .inr (4, fs)) {a : Nat} (hl : 5 < fs.length) (hdg : decode cc pc = .ok (.putfield 13, 3)) (kk : ∀ (w1 : Nat → va_E) (H1 : Heap) (locs1 : List Loc), w1 = va_up w k0 (.inr (4, fs.set 5 (.ref a))) → WW D vwCl tys A H0 ad N w1 s H1 locs1 → W p l e R s m args below meth c H1 locs1 cells slots Q (F0 m (pc + 3) ls rest)) : W p l e R s m args below meth c H locs cells slots Q (F0 m pc ls (.ref a :: .ref (ad k0) :: rest)) :=
  x_putF (ty := .array .boolean) hx hb hts inlX5 tyX5 tyX5_ok nmX5 hown hw hk0 he rfl 5 (by decide) (hts _ fl_X5_13) (fun _ h => h) rfl hin rfl (by decide +kernel) rfl rfl hl hdg kk
theorem pF_X5_16 (hx : p.tables.exec = Jvm.exec) (hb : c.code = cc) (hts : ∀ w ∈ wsL_law, w.before args s = true) (hown : s.vm.findClass RX5 = some m.cls) (hin : meth.name = "<init>") (hw : WW D vwCl tys A H0 ad N w s H locs) {k0 : Nat} {fs : List Value} (hk0 : k0 < N) (he : w k0 = .inr (4, fs)) {a : Nat} (hl : 6 < fs.length) (hdg : decode cc pc = .ok (.putfield 16, 3)) (kk : ∀ (w1 : Nat → va_E) (H1 : Heap) (locs1 : List Loc), w1 = va_up w k0 (.inr (4, fs.set 6 (.ref a))) → WW D vwCl tys A H0 ad N w1 s H1 locs1 → W p l e R s m args below meth c H1 locs1 cells slots Q (F0 m (pc + 3) ls rest)) : W p l e R s m args below meth c H locs cells slots Q (F0 m pc ls (.ref a :: .ref (ad k0) :: rest)) :=
  x_putF (ty := .array .long) hx hb hts inlX5 tyX5 tyX5_ok nmX5 hown hw hk0 he rfl 6 (by decide) (hts _ fl_X5_16) (fun _ h => h) rfl hin rfl (by decide +kernel) rfl rfl hl hdg kk
theorem pF_X5_20 (hx : p.tables.exec = Jvm.exec) (hb : c.code = cc) (hts : ∀ w ∈ wsL_law, w.before args s = true) (hown : s.vm.findClass RX5 = some m.cls) (hin : meth.name = "<init>") (hw : WW D vwCl tys A H0 ad N w s H locs) {k0 : Nat} {fs : List Value} (hk0 : k0 < N) (he : w k0 = .inr (4, fs)) {a : Nat} (hl : 7 < fs.length) (hdg : decode cc pc = .ok (.putfield 20, 3)) (kk : ∀ (w1 : Nat → va_E) (H1 : Heap) (locs1 : List Loc), w1 = va_up w k0 (.inr (4, fs.set 7 (.ref a))) → WW D vwCl tys A H0 ad N w1 s H1 locs1 → W p l e R s m args below meth c H1 locs1 cells slots Q (F0 m (pc + 3) ls rest)) : W p l e R s m args below meth c H locs cells slots Q (F0 m pc ls (.ref a :: .ref (ad k0) :: rest)) :=
  x_putF (ty := .array .long) hx hb hts inlX5 tyX5 tyX5_ok nmX5 hown hw hk0 he rfl 7 (by decide) (hts _ fl_X5_20) (fun _ h => h) rfl hin rfl (by decide +kernel) rfl rfl hl hdg kk
theorem pF_X5_23 (hx : p.tables.exec = Jvm.exec) (hb : c.code = cc) (hts : ∀ w ∈ wsL_law, w.before args s = true) (hown : s.vm.findClass RX5 = some m.cls) (hin : meth.name = "<init>") (hw : WW D vwCl tys A H0 ad N w s H locs) {k0 : Nat} {fs : List Value} (hk0 : k0 < N) (he : w k0 = .inr (4, fs)) {a : Nat} (hl : 8 < fs.length) (hdg : decode cc pc = .ok (.putfield 23, 3)) (kk : ∀ (w1 : Nat → va_E) (H1 : Heap) (locs1 : List Loc), w1 = va_up w k0 (.inr (4, fs.set 8 (.ref a))) → WW D vwCl tys A H0 ad N w1 s H1 locs1 → W p l e R s m args below meth c H1 locs1 cells slots Q (F0 m (pc + 3) ls rest)) : W p l e R s m args below meth c H locs cells slots Q (F0 m pc ls (.ref a :: .ref (ad k0) :: rest)) :=
  x_putF (ty := .array .long) hx hb hts inlX5 tyX5 tyX5_ok nmX5 hown hw hk0 he rfl 8 (by decide) (hts _ fl_X5_23) (fun _ h => h) rfl hin rfl (by decide +kernel) rfl rfl hl hdg kk
theorem pF_X5_26 (hx : p.tables.exec = Jvm.exec) (hb : c.code = cc) (hts : ∀ w ∈ wsL_law, w.before args s = true) (hown : s.vm.findClass RX5 = some m.cls) (hin : meth.name = "<init>") (hw : WW D vwCl tys A H0 ad N w s H locs) {k0 : Nat} {fs : List Value} (hk0 : k0 < N) (he : w k0 = .inr (4, fs)) {a : Nat} (hl : 9 < fs.length) (hdg : decode cc pc = .ok (.putfield 26, 3)) (kk : ∀ (w1 : Nat → va_E) (H1 : Heap) (locs1 : List Loc), w1 = va_up w k0 (.inr (4, fs.set 9 (.ref a))) → WW D vwCl tys A H0 ad N w1 s H1 locs1 → W p l e R s m args below meth c H1 locs1 cells slots Q (F0 m (pc + 3) ls rest)) : W p l e R s m args below meth c H locs cells slots Q (F0 m pc ls (.ref a :: .ref (ad k0) :: rest)) :=
  x_putF (ty := .array .boolean) hx hb hts inlX5 tyX5 tyX5_ok nmX5 hown hw hk0 he rfl 9 (by decide) (hts _ fl_X5_26) (fun _ h => h) rfl hin rfl (by decide +kernel) rfl rfl hl hdg kk
theorem pF_X5_29 (hx : p.tables.exec = Jvm.exec) (hb : c.code = cc) (hts : ∀ w ∈ wsL_law, w.before args s = true) (hown : s.vm.findClass RX5 = some m.cls) (hin : meth.name = "<init>") (hw : WW D vwCl tys A H0 ad N w s H locs) {k0 : Nat} {fs : List Value} (hk0 : k0 < N) (he : w k0 = .inr (4, fs)) {a : Nat} (hl : 11 < fs.length) (hdg : decode cc pc = .ok (.putfield 29, 3)) (kk : ∀ (w1 : Nat → va_E) (H1 : Heap) (locs1 : List Loc), w1 = va_up w k0 (.inr (4, fs.set 11 (.ref a))) → WW D vwCl tys A H0 ad N w1 s H1 locs1 → W p l e R s m args below meth c H1 locs1 cells slots Q (F0 m (pc + 3) ls rest)) : W p l e R s m args below meth c H locs cells slots Q (F0 m pc ls (.ref a :: .ref (ad k0) :: rest)) :=
  x_putF (ty := .array .long) hx hb hts inlX5 tyX5 tyX5_ok nmX5 hown hw hk0 he rfl 11 (by decide) (hts _ fl_X5_29) (fun _ h => h) rfl hin rfl (by decide +kernel) rfl rfl hl hdg kk
theorem pF_X5_32 (hx : p.tables.exec = Jvm.exec) (hb : c.code = cc) (hts : ∀ w ∈ wsL_law, w.before args s = true) (hown : s.vm.findClass RX5 = some m.cls) (hin : meth.name = "<init>") (hw : WW D vwCl tys A H0 ad N w s H locs) {k0 : Nat} {fs : List Value} (hk0 : k0 < N) (he : w k0 = .inr (4, fs)) {a : Nat} (hl : 12 < fs.length) (hdg : decode cc pc = .ok (.putfield 32, 3)) (kk : ∀ (w1 : Nat → va_E) (H1 : Heap) (locs1 : List Loc), w1 = va_up w k0 (.inr (4, fs.set 12 (.ref a))) → WW D vwCl tys A H0 ad N w1 s H1 locs1 → W p l e R s m args below meth c H1 locs1 cells slots Q (F0 m (pc + 3) ls rest)) : W p l e R s m args below meth c H locs cells slots Q (F0 m pc ls (.ref a :: .ref (ad k0) :: rest)) :=
  x_putF (ty := .array .long) hx hb hts inlX5 tyX5 tyX5_ok nmX5 hown hw hk0 he rfl 12 (by decide) (hts _ fl_X5_32) (fun _ h => h) rfl hin rfl (by decide +kernel) rfl rfl hl hdg kk
theorem pF_X5_35 (hx : p.tables.exec = Jvm.exec) (hb : c.code = cc) (hts : ∀ w ∈ wsL_law, w.before args s = true) (hown : s.vm.findClass RX5 = some m.cls) (hin : meth.name = "<init>") (hw : WW D vwCl tys A H0 ad N w s H locs) {k0 : Nat} {fs : List Value} (hk0 : k0 < N) (he : w k0 = .inr (4, fs)) {a : Nat} (hl : 13 < fs.length) (hdg : decode cc pc = .ok (.putfield 35, 3)) (kk : ∀ (w1 : Nat → va_E) (H1 : Heap) (locs1 : List Loc), w1 = va_up w k0 (.inr (4, fs.set 13 (.ref a))) → WW D vwCl tys A H0 ad N w1 s H1 locs1 → W p l e R s m args below meth c H1 locs1 cells slots Q (F0 m (pc + 3) ls rest)) : W p l e R s m args below meth c H locs cells slots Q (F0 m pc ls (.ref a :: .ref (ad k0) :: rest)) :=
  x_putF (ty := .array .long) hx hb hts inlX5 tyX5 tyX5_ok nmX5 hown hw hk0 he rfl 13 (by decide) (hts _ fl_X5_35) (fun _ h => h) rfl hin rfl (by decide +kernel) rfl rfl hl hdg kk
theorem pF_X5_38 (hx : p.tables.exec = Jvm.exec) (hb : c.code = cc) (hts : ∀ w ∈ wsL_law, w.before args s = true) (hown : s.vm.findClass RX5 = some m.cls) (hin : meth.name = "<init>") (hw : WW D vwCl tys A H0 ad N w s H locs) {k0 : Nat} {fs : List Value} (hk0 : k0 < N) (he : w k0 = .inr (4, fs)) {a : Nat} (hl : 16 < fs.length) (hdg : decode cc pc = .ok (.putfield 38, 3)) (kk : ∀ (w1 : Nat → va_E) (H1 : Heap) (locs1 : List Loc), w1 = va_up w k0 (.inr (4, fs.set 16 (.ref a))) → WW D vwCl tys A H0 ad N w1 s H1 locs1 → W p l e R s m args below meth c H1 locs1 cells slots Q (F0 m (pc + 3) ls rest)) : W p l e R s m args below meth c H locs cells slots Q (F0 m pc ls (.ref a :: .ref (ad k0) :: rest)) :=
  x_putF (ty := .array .long) hx hb hts inlX5 tyX5 tyX5_ok nmX5 hown hw hk0 he rfl 16 (by decide) (hts _ fl_X5_38) (fun _ h => h) rfl hin rfl (by decide +kernel) rfl rfl hl hdg kk
theorem nw_X4_9 (hx : p.tables.exec = Jvm.exec) (hb : c.code = cc) (hts : ∀ w ∈ wsL_law, w.before args s = true) (hown : s.vm.findClass RX4 = some m.cls) (hw : WW D vwCl tys A H0 ad N w s H locs) (hA : ∀ q, H0.size ≤ q → A q) (hsz : H.size = ad N) {N2 : Nat} (hN2 : N2 = N + 1) (hcells : cells + 1 ≤ R.cells) (hslots : slots + 6 ≤ R.slots) (hdg : decode cc pc = .ok (.new 9, 3)) (kk : ∀ (w1 : Nat → va_E) (H1 : Heap), w1 = va_up w N (.inr (0, [.null, .null, .null, .int (nI 0), .int (nI 0), .int (nI 0)])) → WW D vwCl tys A H0 ad N2 w1 s H1 locs → W p l e R s m args below meth c H1 locs (cells + 1) (slots + 6) Q (F0 m (pc + 3) ls (.ref (ad N) :: rest))) : W p l e R s m args below meth c H locs cells slots Q (F0 m pc ls rest) :=
  x_new (ci := 0) (C := RX0) (T := TX0) (NF := 6) hx hb hts inlX0 tyX0 tyX0_ok hown (hts _ (List.mem_of_getElem? (i := 14) (by decide +kernel))) (hts _ (List.mem_of_getElem? (i := 16) (by decide +kernel))) (hts _ (List.mem_of_getElem? (i := 17) (by decide +kernel))) hw hA hsz hN2 rfl (fun j hj => by rcases (show j = 0 ∨ j = 1 ∨ j = 2 ∨ j = 3 ∨ j = 4 ∨ j = 5 by omega) with rfl | rfl | rfl | rfl | rfl | rfl <;> rfl) hcells hslots hdg kk
theorem nw_X4_23 (hx : p.tables.exec = Jvm.exec) (hb : c.code = cc) (hts : ∀ w ∈ wsL_law, w.before args s = true) (hown : s.vm.findClass RX4 = some m.cls) (hw : WW D vwCl tys A H0 ad N w s H locs) (hA : ∀ q, H0.size ≤ q → A q) (hsz : H.size = ad N) {N2 : Nat} (hN2 : N2 = N + 1) (hcells : cells + 1 ≤ R.cells) (hslots : slots + 7 ≤ R.slots) (hdg : decode cc pc = .ok (.new 23, 3)) (kk : ∀ (w1 : Nat → va_E) (H1 : Heap), w1 = va_up w N (.inr (1, [.null, .null, .null, .int (nI 0), .int (nI 0), .long (lN 0), .int (nI 0)])) → WW D vwCl tys A H0 ad N2 w1 s H1 locs → W p l e R s m args below meth c H1 locs (cells + 1) (slots + 7) Q (F0 m (pc + 3) ls (.ref (ad N) :: rest))) : W p l e R s m args below meth c H locs cells slots Q (F0 m pc ls rest) :=
  x_new (ci := 1) (C := RX2) (T := TX2) (NF := 7) hx hb hts inlX2 tyX2 tyX2_ok hown (hts _ (List.mem_of_getElem? (i := 21) (by decide +kernel))) (hts _ (List.mem_of_getElem? (i := 22) (by decide +kernel))) (hts _ (List.mem_of_getElem? (i := 23) (by decide +kernel))) hw hA hsz hN2 rfl (fun j hj => by rcases (show j = 0 ∨ j = 1 ∨ j = 2 ∨ j = 3 ∨ j = 4 ∨ j = 5 ∨ j = 6 by omega) with rfl | rfl | rfl | rfl | rfl | rfl | rfl <;> rfl) hcells hslots hdg kk
theorem nw_X4_30 (hx : p.tables.exec = Jvm.exec) (hb : c.code = cc) (hts : ∀ w ∈ wsL_law, w.before args s = true) (hown : s.vm.findClass RX4 = some m.cls) (hw : WW D vwCl tys A H0 ad N w s H locs) (hA : ∀ q, H0.size ≤ q → A q) (hsz : H.size = ad N) {N2 : Nat} (hN2 : N2 = N + 1) (hcells : cells + 1 ≤ R.cells) (hslots : slots + 3 ≤ R.slots) (hdg : decode cc pc = .ok (.new 30, 3)) (kk : ∀ (w1 : Nat → va_E) (H1 : Heap), w1 = va_up w N (.inr (2, [.int (nI 0), .int (nI 0), .int (nI 0)])) → WW D vwCl tys A H0 ad N2 w1 s H1 locs → W p l e R s m args below meth c H1 locs (cells + 1) (slots + 3) Q (F0 m (pc + 3) ls (.ref (ad N) :: rest))) : W p l e R s m args below meth c H locs cells slots Q (F0 m pc ls rest) :=
  x_new (ci := 2) (C := RX3) (T := TX3) (NF := 3) hx hb hts inlX3 tyX3 tyX3_ok hown (hts _ (List.mem_of_getElem? (i := 25) (by decide +kernel))) (hts _ (List.mem_of_getElem? (i := 26) (by decide +kernel))) (hts _ (List.mem_of_getElem? (i := 27) (by decide +kernel))) hw hA hsz hN2 rfl (fun j hj => by rcases (show j = 0 ∨ j = 1 ∨ j = 2 by omega) with rfl | rfl | rfl <;> rfl) hcells hslots hdg kk
theorem nw_L_8 (hx : p.tables.exec = Jvm.exec) (hb : c.code = cc) (hts : ∀ w ∈ wsL_law, w.before args s = true) (hown : s.vm.findClass RL = some m.cls) (hw : WW D vwCl tys A H0 ad N w s H locs) (hA : ∀ q, H0.size ≤ q → A q) (hsz : H.size = ad N) {N2 : Nat} (hN2 : N2 = N + 1) (hcells : cells + 1 ≤ R.cells) (hslots : slots + 10 ≤ R.slots) (hdg : decode cc pc = .ok (.new 8, 3)) (kk : ∀ (w1 : Nat → va_E) (H1 : Heap), w1 = va_up w N (.inr (3, [.null, .null, .null, .null, .null, .int (nI 0), .int (nI 0), .int (nI 0), .int (nI 0), .int (nI 0)])) → WW D vwCl tys A H0 ad N2 w1 s H1 locs → W p l e R s m args below meth c H1 locs (cells + 1) (slots + 10) Q (F0 m (pc + 3) ls (.ref (ad N) :: rest))) : W p l e R s m args below meth c H locs cells slots Q (F0 m pc ls rest) :=
  x_new (ci := 3) (C := RX4) (T := TX4) (NF := 10) hx hb hts inlX4 tyX4 tyX4_ok hown (hts _ (List.mem_of_getElem? (i := 0) (by decide +kernel))) (hts _ (List.mem_of_getElem? (i := 1) (by decide +kernel))) (hts _ (List.mem_of_getElem? (i := 2) (by decide +kernel))) hw hA hsz hN2 rfl (fun j hj => by rcases (show j = 0 ∨ j = 1 ∨ j = 2 ∨ j = 3 ∨ j = 4 ∨ j = 5 ∨ j = 6 ∨ j = 7 ∨ j = 8 ∨ j = 9 by omega) with rfl | rfl | rfl | rfl | rfl | rfl | rfl | rfl | rfl | rfl <;> rfl) hcells hslots hdg kk
theorem nw_L_80 (hx : p.tables.exec = Jvm.exec) (hb : c.code = cc) (hts : ∀ w ∈ wsL_law, w.before args s = true) (hown : s.vm.findClass RL = some m.cls) (hw : WW D vwCl tys A H0 ad N w s H locs) (hA : ∀ q, H0.size ≤ q → A q) (hsz : H.size = ad N) {N2 : Nat} (hN2 : N2 = N + 1) (hcells : cells + 1 ≤ R.cells) (hslots : slots + 18 ≤ R.slots) (hdg : decode cc pc = .ok (.new 80, 3)) (kk : ∀ (w1 : Nat → va_E) (H1 : Heap), w1 = va_up w N (.inr (4, [.int (nI 0), .int (nI 0), .int (nI 0), .int (nI 0), .null, .null, .null, .null, .null, .null, .int (nI 0), .null, .null, .null, .int (nI 0), .int (nI 0), .null, .long (lN 0)])) → WW D vwCl tys A H0 ad N2 w1 s H1 locs → W p l e R s m args below meth c H1 locs (cells + 1) (slots + 18) Q (F0 m (pc + 3) ls (.ref (ad N) :: rest))) : W p l e R s m args below meth c H locs cells slots Q (F0 m pc ls rest) :=
  x_new (ci := 4) (C := RX5) (T := TX5) (NF := 18) hx hb hts inlX5 tyX5 tyX5_ok hown (hts _ (List.mem_of_getElem? (i := 3) (by decide +kernel))) (hts _ (List.mem_of_getElem? (i := 4) (by decide +kernel))) (hts _ (List.mem_of_getElem? (i := 5) (by decide +kernel))) hw hA hsz hN2 rfl (fun j hj => by rcases (show j = 0 ∨ j = 1 ∨ j = 2 ∨ j = 3 ∨ j = 4 ∨ j = 5 ∨ j = 6 ∨ j = 7 ∨ j = 8 ∨ j = 9 ∨ j = 10 ∨ j = 11 ∨ j = 12 ∨ j = 13 ∨ j = 14 ∨ j = 15 ∨ j = 16 ∨ j = 17 by omega) with rfl | rfl | rfl | rfl | rfl | rfl | rfl | rfl | rfl | rfl | rfl | rfl | rfl | rfl | rfl | rfl | rfl | rfl <;> rfl) hcells hslots hdg kk
end XPF
set_option maxHeartbeats 4000000 in
set_option maxRecDepth 100000 in
theorem k_initD (l : Launch) {D : va_G} {cI cJ cZ cD : ClassId} {b0 : Nat} {w : Nat → va_E} (i : Nat) (hD : w (2 + 4 * i) = .inr (0, [.null, .null, .null, .int (nI 0), .int (nI 0), .int (nI 0)])) : MN l yX0_init (.code yX0_init cX0_init 1 none) ({ frames := 1, cells := 3, slots := 50, locals := 12 }) [.ref (adn b0 (2 + 4 * i))] D (tyL cI cJ cZ cD) (fun _ => True) b0 (3 + 4 * i) w (6 + 4 * i) 3 50 (fun u => (∀ z, z < 2 + 4 * i → u z = w z) ∧ u (2 + 4 * i) = .inr (0, [.ref (adn b0 (3 + 4 * i)), .ref (adn b0 (4 + 4 * i)), .ref (adn b0 (5 + 4 * i)), .int (nI 0), .int (nI 0), .int (nI 0)]) ∧ u (3 + 4 * i) = .inl (cI, 16, .inl (fun _ => nI 0)) ∧ u (4 + 4 * i) = .inl (cI, 17, .inl (fun _ => nI 0)) ∧ u (5 + 4 * i) = .inl (cI, 17, .inl (fun _ => nI 0))) := by
  refine MN.of (by decide) rfl (Nat.le_of_ble_eq_true rfl) ?_
  intro p e s m below meth c ls hC hr hlocks hin hl hw hs0 hE
  obtain ⟨hx, hb, hml, hown, hts⟩ := id hC
  have hA : ∀ q, s.heap.size ≤ q → xA (adn b0) (3 + 4 * i) (b0 + (3 + 4 * i)) q := fun q h => Or.inr (by omega)
  have hl : lv_has ls 1 [(0, .ref (adn b0 (2 + 4 * i)))] := hl
  refine lv_aload_n hx hb dX0_init_0 rfl (lv_at hl 0 rfl) ?_
  refine W.objInit hx hb hown (hts _ (List.mem_of_getElem? (i := 31) (by decide +kernel))) (hts _ (List.mem_of_getElem? (i := 12) (by decide +kernel))) (hts _ (List.mem_of_getElem? (i := 13) (by decide +kernel))) rfl (by rw [hml]; exact hl.1) rfl dX0_init_1 (Nat.le_of_ble_eq_true rfl) (Nat.le_of_ble_eq_true rfl) ?_
  refine lv_aload_n hx hb dX0_init_4 rfl (lv_at hl 0 rfl) ?_
  refine lv_bipush (v := nI 16) hx hb dX0_init_5 (by decide) ?_
  refine x_sized hw (by omega) (by omega) (fun hsz => ?_)
  refine x_newa (atype := .int) (a0 := (16, .inl (fun _ => nI 0))) hx hb rfl (hts _ (List.mem_of_getElem? (i := 18) (by decide +kernel))) hw hA hsz (N2 := 4 + 4 * i) (by omega) 0 rfl (fun _ => rfl) (by decide) (by decide) (Nat.le_of_ble_eq_true rfl) (Nat.le_of_ble_eq_true rfl) dX0_init_7 (fun w_1 H ew_2 hw => ?_)
  have hc_3 : w_1 (2 + 4 * i) = .inr (0, [.null, .null, .null, .int (nI 0), .int (nI 0), .int (nI 0)]) := by rw [ew_2]; exact (va_up_ne _ _ (by omega)).trans hD
  have hc_4 : w_1 (3 + 4 * i) = .inl (cI, 16, .inl (fun _ => nI 0)) := by rw [ew_2]; exact va_up_self _ _ _
  refine pF_X0_9 hx hb hts hown hin hw (by omega) hc_3 (Nat.le_of_ble_eq_true rfl) dX0_init_9 (fun w_5 H locs ew_6 hw => ?_)
  have hc_7 : w_5 (2 + 4 * i) = .inr (0, [.ref (adn b0 (3 + 4 * i)), .null, .null, .int (nI 0), .int (nI 0), .int (nI 0)]) := by rw [ew_6]; exact va_up_self _ _ _
  have hc_8 : w_5 (3 + 4 * i) = .inl (cI, 16, .inl (fun _ => nI 0)) := by rw [ew_6]; exact (va_up_ne _ _ (by omega)).trans hc_4
  refine lv_aload_n hx hb dX0_init_12 rfl (lv_at hl 0 rfl) ?_
  refine lv_bipush (v := nI 17) hx hb dX0_init_13 (by decide) ?_
  refine x_sized hw (by omega) (by omega) (fun hsz => ?_)
  refine x_newa (atype := .int) (a0 := (17, .inl (fun _ => nI 0))) hx hb rfl (hts _ (List.mem_of_getElem? (i := 18) (by decide +kernel))) hw hA hsz (N2 := 5 + 4 * i) (by omega) 0 rfl (fun _ => rfl) (by decide) (by decide) (Nat.le_of_ble_eq_true rfl) (Nat.le_of_ble_eq_true rfl) dX0_init_15 (fun w_9 H ew_10 hw => ?_)
  have hc_11 : w_9 (2 + 4 * i) = .inr (0, [.ref (adn b0 (3 + 4 * i)), .null, .null, .int (nI 0), .int (nI 0), .int (nI 0)]) := by rw [ew_10]; exact (va_up_ne _ _ (by omega)).trans hc_7
  have hc_12 : w_9 (3 + 4 * i) = .inl (cI, 16, .inl (fun _ => nI 0)) := by rw [ew_10]; exact (va_up_ne _ _ (by omega)).trans hc_8
  have hc_13 : w_9 (4 + 4 * i) = .inl (cI, 17, .inl (fun _ => nI 0)) := by rw [ew_10]; exact va_up_self _ _ _
  refine pF_X0_15 hx hb hts hown hin hw (by omega) hc_11 (Nat.le_of_ble_eq_true rfl) dX0_init_17 (fun w_14 H locs ew_15 hw => ?_)
  have hc_16 : w_14 (2 + 4 * i) = .inr (0, [.ref (adn b0 (3 + 4 * i)), .ref (adn b0 (4 + 4 * i)), .null, .int (nI 0), .int (nI 0), .int (nI 0)]) := by rw [ew_15]; exact va_up_self _ _ _
  have hc_17 : w_14 (3 + 4 * i) = .inl (cI, 16, .inl (fun _ => nI 0)) := by rw [ew_15]; exact (va_up_ne _ _ (by omega)).trans hc_12
  have hc_18 : w_14 (4 + 4 * i) = .inl (cI, 17, .inl (fun _ => nI 0)) := by rw [ew_15]; exact (va_up_ne _ _ (by omega)).trans hc_13
  refine lv_aload_n hx hb dX0_init_20 rfl (lv_at hl 0 rfl) ?_
  refine lv_bipush (v := nI 17) hx hb dX0_init_21 (by decide) ?_
  refine x_sized hw (by omega) (by omega) (fun hsz => ?_)
  refine x_newa (atype := .int) (a0 := (17, .inl (fun _ => nI 0))) hx hb rfl (hts _ (List.mem_of_getElem? (i := 18) (by decide +kernel))) hw hA hsz (N2 := 6 + 4 * i) (by omega) 0 rfl (fun _ => rfl) (by decide) (by decide) (Nat.le_of_ble_eq_true rfl) (Nat.le_of_ble_eq_true rfl) dX0_init_23 (fun w_19 H ew_20 hw => ?_)
  have hc_21 : w_19 (2 + 4 * i) = .inr (0, [.ref (adn b0 (3 + 4 * i)), .ref (adn b0 (4 + 4 * i)), .null, .int (nI 0), .int (nI 0), .int (nI 0)]) := by rw [ew_20]; exact (va_up_ne _ _ (by omega)).trans hc_16
  have hc_22 : w_19 (3 + 4 * i) = .inl (cI, 16, .inl (fun _ => nI 0)) := by rw [ew_20]; exact (va_up_ne _ _ (by omega)).trans hc_17
  have hc_23 : w_19 (4 + 4 * i) = .inl (cI, 17, .inl (fun _ => nI 0)) := by rw [ew_20]; exact (va_up_ne _ _ (by omega)).trans hc_18
  have hc_24 : w_19 (5 + 4 * i) = .inl (cI, 17, .inl (fun _ => nI 0)) := by rw [ew_20]; exact va_up_self _ _ _
  refine pF_X0_18 hx hb hts hown hin hw (by omega) hc_21 (Nat.le_of_ble_eq_true rfl) dX0_init_25 (fun w_25 H locs ew_26 hw => ?_)
  have hc_27 : w_25 (2 + 4 * i) = .inr (0, [.ref (adn b0 (3 + 4 * i)), .ref (adn b0 (4 + 4 * i)), .ref (adn b0 (5 + 4 * i)), .int (nI 0), .int (nI 0), .int (nI 0)]) := by rw [ew_26]; exact va_up_self _ _ _
  have hc_28 : w_25 (3 + 4 * i) = .inl (cI, 16, .inl (fun _ => nI 0)) := by rw [ew_26]; exact (va_up_ne _ _ (by omega)).trans hc_22
  have hc_29 : w_25 (4 + 4 * i) = .inl (cI, 17, .inl (fun _ => nI 0)) := by rw [ew_26]; exact (va_up_ne _ _ (by omega)).trans hc_23
  have hc_30 : w_25 (5 + 4 * i) = .inl (cI, 17, .inl (fun _ => nI 0)) := by rw [ew_26]; exact (va_up_ne _ _ (by omega)).trans hc_24
  have hfr : ∀ z, z ≠ 3 + 4 * i → z ≠ 2 + 4 * i → z ≠ 4 + 4 * i → z ≠ 5 + 4 * i → w_25 z = w z := fun z hhfr0 hhfr1 hhfr2 hhfr3 => by rw [ew_26, va_up_ne _ _ hhfr1, ew_20, va_up_ne _ _ hhfr3, ew_15, va_up_ne _ _ hhfr1, ew_10, va_up_ne _ _ hhfr2, ew_6, va_up_ne _ _ hhfr1, ew_2, va_up_ne _ _ hhfr0]
  exact x_nret hx hb hr hlocks hw ⟨fun z hz => hfr z (by omega) (by omega) (by omega) (by omega), hc_27, hc_28, hc_29, hc_30⟩ dX0_init_28
set_option maxHeartbeats 4000000 in
set_option maxRecDepth 100000 in
theorem k_initS (l : Launch) {D : va_G} {cI cJ cZ cD : ClassId} {b0 : Nat} {w : Nat → va_E}   : MN l yX3_init (.code yX3_init cX3_init 1 none) ({ frames := 1, cells := 0, slots := 0, locals := 12 }) [.ref (adn b0 76)] D (tyL cI cJ cZ cD) (fun _ => True) b0 (77) w (77) 0 0 (fun u => u = w) := by
  refine MN.of (by decide) rfl (Nat.le_of_ble_eq_true rfl) ?_
  intro p e s m below meth c ls hC hr hlocks hin hl hw hs0 hE
  obtain ⟨hx, hb, hml, hown, hts⟩ := id hC
  have hA : ∀ q, s.heap.size ≤ q → xA (adn b0) (77) (b0 + (77)) q := fun q h => Or.inr (by omega)
  have hl : lv_has ls 1 [(0, .ref (adn b0 76))] := hl
  refine lv_aload_n hx hb dX3_init_0 rfl (lv_at hl 0 rfl) ?_
  refine W.objInit hx hb hown (hts _ (List.mem_of_getElem? (i := 54) (by decide +kernel))) (hts _ (List.mem_of_getElem? (i := 12) (by decide +kernel))) (hts _ (List.mem_of_getElem? (i := 13) (by decide +kernel))) rfl (by rw [hml]; exact hl.1) rfl dX3_init_1 (Nat.le_of_ble_eq_true rfl) (Nat.le_of_ble_eq_true rfl) ?_
  exact x_nret hx hb hr hlocks hw rfl dX3_init_4
set_option maxHeartbeats 4000000 in
set_option maxRecDepth 100000 in
theorem k_initR_loop {l : Launch} {p : Program} {e : Env} {s : State} {m : MethodId} {args : Array Value} {below : List Frame} {meth : Method} {c : Code} {Q : State → Prop} {D : va_G} {cI cJ cZ cD : ClassId} {A : Nat → Prop} {H0 : Heap} {b0 : Nat} {w0 : Nat → va_E} (hC : CallFix p m c cX2_init 3 s args wsL_law RX2) (h72 : w0 72 = .inr (1, [.ref (adn b0 73), .ref (adn b0 74), .ref (adn b0 75), .int (nI 0), .int (nI 0), .long (lN 0), .int (nI 0)]))
    (kx : ∀ (ivf : Nat → Int32) (w : Nat → va_E) (ls : Array Slot) (H : Heap) (locs : List Loc), (∀ z, z ≠ 75 → w z = w0 z) → w 75 = .inl (cI, 16, .inl ivf) → (∀ d, 1 ≤ d → d < 16 → ivf d = nI (iv d)) → WW D vwCl (tyL cI cJ cZ cD) A H0 (adn b0) 76 w s H locs → W p l e ({ frames := 2, cells := 3, slots := 334, locals := 62 }) s m args below meth c H locs 3 334 Q (F0 m 80 ls [])) :
    ∀ (j q : Nat) (ivf : Nat → Int32) (w : Nat → va_E) (ls : Array Slot) (H : Heap) (locs : List Loc), q + j = 14 → (∀ z, z ≠ 75 → w z = w0 z) → w 75 = .inl (cI, 16, .inl ivf) → (∀ d, 1 ≤ d → d < q + 2 → ivf d = nI (iv d)) → WW D vwCl (tyL cI cJ cZ cD) A H0 (adn b0) 76 w s H locs → lv_has ls 3 [(0, .ref (adn b0 72)), (1, .int (nI (q + 2)))] → W p l e ({ frames := 2, cells := 3, slots := 334, locals := 62 }) s m args below meth c H locs 3 334 Q (F0 m 38 ls []) := by
  obtain ⟨hx, hb, hml, hown, hts⟩ := id hC
  intro j
  induction j with
  | zero =>
    intro q ivf w ls H locs hq hfr h75 hiv hw hl
    obtain rfl : q = 14 := by omega
    have hl : lv_has ls 3 [(0, .ref (adn b0 72)), (1, .int (nI 16))] := hl
    refine lv_iload_n hx hb dX2_init_38 rfl (lv_at hl 1 rfl) ?_
    refine lv_bipush (v := nI 16) hx hb dX2_init_39 (by decide) ?_
    refine lv_icmp_ge (tgt := 80) hx hb dX2_init_41 (by decide) (fun hc => ?_) (fun hc => absurd (by decide) hc)
    exact kx ivf w ls H locs hfr h75 hiv hw
  | succ j ih =>
    intro q ivf w ls H locs hq hfr h75 hiv hw hl
    have hR : w 72 = .inr (1, [.ref (adn b0 73), .ref (adn b0 74), .ref (adn b0 75), .int (nI 0), .int (nI 0), .long (lN 0), .int (nI 0)]) := (hfr 72 (by decide)).trans h72
    have hdv : 1073741789 / (q + 2) ≤ 1073741789 := Nat.div_le_self _ _
    have hsb : 1073741789 - 1073741789 / (q + 2) < 2147483648 := Nat.lt_of_le_of_lt (Nat.sub_le _ _) (by decide)
    have hmd : 1073741789 % (q + 2) < q + 2 := Nat.mod_lt _ (by omega)
    have hm1 : 1 ≤ 1073741789 % (q + 2) := (show ∀ d, d < 14 → 1 ≤ 1073741789 % (d + 2) by decide +kernel) q (by omega)
    have hil := iv_lt (1073741789 % (q + 2)) (by omega)
    have hmm := mul_lt62 (show 1073741789 - 1073741789 / (q + 2) < 2 ^ 31 from hsb) (show iv (1073741789 % (q + 2)) < 2 ^ 31 by omega)
    refine lv_iload_n hx hb dX2_init_38 rfl (lv_at hl 1 rfl) ?_
    refine lv_bipush (v := nI 16) hx hb dX2_init_39 (by decide) ?_
    refine lv_icmp_ge (tgt := 80) hx hb dX2_init_41 (by decide) (fun hc => absurd hc (fun q9 => by rw [nI_leI (by omega) (by omega)] at q9; omega)) (fun hc => ?_)
    refine lv_ldc hx hb hown (hts _ ct_X2_24) dX2_init_44 ?_
    refine lv_ldc hx hb hown (hts _ ct_X2_24) dX2_init_46 ?_
    refine lv_iload_n hx hb dX2_init_48 rfl (lv_at hl 1 rfl) ?_
    refine lv_idiv hx hb dX2_init_49 (nI_nz (by omega) (by omega)) ?_
    rw [pk_div (by decide) (by omega) (by omega)]
    refine t_isub hx hb dX2_init_50 (v := nI (1073741789 - (1073741789 / (q + 2)))) (pk_sub (by omega)) ?_
    refine lv_istore_n (lv' := [(2, .int (nI (1073741789 - (1073741789 / (q + 2))))), (0, .ref (adn b0 72)), (1, .int (nI (q + 2)))]) hx hb dX2_init_51 rfl hl (by decide) rfl (fun ls hl => ?_)
    refine lv_aload_n hx hb dX2_init_52 rfl (lv_at hl 1 rfl) ?_
    refine gf_X2_19 hx hb hts hown hw (by decide) hR rfl dX2_init_53 ?_
    refine lv_iload_n hx hb dX2_init_56 rfl (lv_at hl 2 rfl) ?_
    refine lv_iload_n hx hb dX2_init_57 rfl (lv_at hl 0 rfl) ?_
    refine lv_i2l hx hb dX2_init_58 (nI_l (show _ < 2 ^ 31 from hsb)) ?_
    refine lv_aload_n hx hb dX2_init_59 rfl (lv_at hl 1 rfl) ?_
    refine gf_X2_19 hx hb hts hown hw (by decide) hR rfl dX2_init_60 ?_
    refine lv_ldc hx hb hown (hts _ ct_X2_24) dX2_init_63 ?_
    refine lv_iload_n hx hb dX2_init_65 rfl (lv_at hl 2 rfl) ?_
    refine lv_irem hx hb dX2_init_66 (nI_nz (by omega) (by omega)) ?_
    rw [pk_rem (by decide) (by omega) (by omega)]
    refine x_iald hx hb hw (by decide) 0 h75 rfl (j := 1073741789 % (q + 2)) (by omega) (by decide) (hiv _ hm1 hmd) dX2_init_67 ?_
    refine lv_i2l hx hb dX2_init_68 (nI_l (by omega)) ?_
    refine lv_lmul hx hb dX2_init_69 ?_
    rw [lN_mul]
    refine x_callS (As := [.long (lN ((1073741789 - (1073741789 / (q + 2))) * (iv (1073741789 % (q + 2)))))]) (rest := [.int (nI (q + 2)), .ref (adn b0 75)]) hC sf_X2_25 (k_toExponent l (lN ((1073741789 - 1073741789 / (q + 2)) * iv (1073741789 % (q + 2))))) ⟨rfl, rfl, Nat.le_of_ble_eq_true rfl, Nat.le_of_ble_eq_true rfl⟩ hl.1 (Nat.le_of_ble_eq_true rfl) dX2_init_70 ⟨Nat.le_of_ble_eq_true rfl, Nat.le_of_ble_eq_true rfl⟩ rfl ?_
    rw [(md_nat (by omega)).trans (iv_step (q + 2) (by omega) (by omega))]
    refine x_iast hx hb hw (by decide) 0 h75 rfl (j := q + 2) (by omega) (by decide) dX2_init_73 (fun w_1 H locs ew_2 hw => ?_)
    have hc_3 : w_1 72 = .inr (1, [.ref (adn b0 73), .ref (adn b0 74), .ref (adn b0 75), .int (nI 0), .int (nI 0), .long (lN 0), .int (nI 0)]) := by rw [ew_2]; exact (va_up_ne _ _ (by omega)).trans hR
    have hc_4 : w_1 75 = .inl (cI, 16, .inl (upd ivf (q + 2) (nI (iv (q + 2))))) := by rw [ew_2]; exact va_up_self _ _ _
    refine lv_iinc (v := nI (q + 2 + 1)) (lv' := [(1, .int (nI (q + 2 + 1))), (2, .int (nI (1073741789 - (1073741789 / (q + 2))))), (0, .ref (adn b0 72))]) hx hb dX2_init_74 hl (k := 2) rfl (nI_1 (q + 2)) (by decide) rfl (fun ls hl => ?_)
    refine lv_goto (tgt := 38) hx hb dX2_init_77 (by decide) ?_
    have hf2 : ∀ z, z ≠ 75 → w_1 z = w z := fun z hhf20 => by rw [ew_2, va_up_ne _ _ hhf20]
    refine ih (q + 1) _ _ ls H locs (by omega) (fun z hz => (hf2 z hz).trans (hfr z hz)) hc_4 (fun d h1 h2 => ?_) hw (lv_sub hl [2, 0] rfl)
    by_cases hd : d = q + 2
    · subst hd; exact upd_s _ _ _
    · rw [upd_n _ _ hd]; exact hiv d h1 (by omega)
set_option maxHeartbeats 4000000 in
set_option maxRecDepth 100000 in
theorem k_initR (l : Launch) {D : va_G} {cI cJ cZ cD : ClassId} {b0 : Nat} {w : Nat → va_E}  (hR : w 72 = .inr (1, [.null, .null, .null, .int (nI 0), .int (nI 0), .long (lN 0), .int (nI 0)])) : MN l yX2_init (.code yX2_init cX2_init 3 none) ({ frames := 2, cells := 3, slots := 334, locals := 62 }) [.ref (adn b0 72)] D (tyL cI cJ cZ cD) (fun _ => True) b0 (73) w (76) 3 334 (fun u => (∀ z, z < 72 → u z = w z) ∧ u 72 = .inr (1, [.ref (adn b0 73), .ref (adn b0 74), .ref (adn b0 75), .int (nI 0), .int (nI 0), .long (lN 0), .int (nI 0)]) ∧ u 73 = .inl (cJ, 301, .inr (.inl (fun _ => lN 0))) ∧ u 74 = .inl (cI, 17, .inl (fun _ => nI 0)) ∧ ∃ ivf : Nat → Int32, u 75 = .inl (cI, 16, .inl ivf) ∧ ∀ d, 1 ≤ d → d < 16 → ivf d = nI (iv d)) := by
  refine MN.of (by decide) rfl (Nat.le_of_ble_eq_true rfl) ?_
  intro p e s m below meth c ls hC hr hlocks hin hl hw hs0 hE
  obtain ⟨hx, hb, hml, hown, hts⟩ := id hC
  have hA : ∀ q, s.heap.size ≤ q → xA (adn b0) (73) (b0 + (73)) q := fun q h => Or.inr (by omega)
  have hl : lv_has ls 3 [(0, .ref (adn b0 72))] := hl
  refine lv_aload_n hx hb dX2_init_0 rfl (lv_at hl 0 rfl) ?_
  refine W.objInit hx hb hown (hts _ (List.mem_of_getElem? (i := 38) (by decide +kernel))) (hts _ (List.mem_of_getElem? (i := 12) (by decide +kernel))) (hts _ (List.mem_of_getElem? (i := 13) (by decide +kernel))) rfl (by rw [hml]; exact hl.1) rfl dX2_init_1 (Nat.le_of_ble_eq_true rfl) (Nat.le_of_ble_eq_true rfl) ?_
  refine lv_aload_n hx hb dX2_init_4 rfl (lv_at hl 0 rfl) ?_
  refine lv_sipush (v := nI 301) hx hb dX2_init_5 (by decide) ?_
  refine x_sized hw (by omega) (by omega) (fun hsz => ?_)
  refine x_newa (atype := .long) (a0 := (301, .inr (.inl (fun _ => lN 0)))) hx hb rfl (hts _ (List.mem_of_getElem? (i := 6) (by decide +kernel))) hw hA hsz (N2 := 74) (by omega) 1 rfl (fun _ => rfl) (by decide) (by decide) (Nat.le_of_ble_eq_true rfl) (Nat.le_of_ble_eq_true rfl) dX2_init_8 (fun w_1 H ew_2 hw => ?_)
  have hc_3 : w_1 72 = .inr (1, [.null, .null, .null, .int (nI 0), .int (nI 0), .long (lN 0), .int (nI 0)]) := by rw [ew_2]; exact (va_up_ne _ _ (by omega)).trans hR
  have hc_4 : w_1 73 = .inl (cJ, 301, .inr (.inl (fun _ => lN 0))) := by rw [ew_2]; exact va_up_self _ _ _
  refine pF_X2_9 hx hb hts hown hin hw (by omega) hc_3 (Nat.le_of_ble_eq_true rfl) dX2_init_10 (fun w_5 H locs ew_6 hw => ?_)
  have hc_7 : w_5 72 = .inr (1, [.ref (adn b0 73), .null, .null, .int (nI 0), .int (nI 0), .long (lN 0), .int (nI 0)]) := by rw [ew_6]; exact va_up_self _ _ _
  have hc_8 : w_5 73 = .inl (cJ, 301, .inr (.inl (fun _ => lN 0))) := by rw [ew_6]; exact (va_up_ne _ _ (by omega)).trans hc_4
  refine lv_aload_n hx hb dX2_init_13 rfl (lv_at hl 0 rfl) ?_
  refine lv_bipush (v := nI 17) hx hb dX2_init_14 (by decide) ?_
  refine x_sized hw (by omega) (by omega) (fun hsz => ?_)
  refine x_newa (atype := .int) (a0 := (17, .inl (fun _ => nI 0))) hx hb rfl (hts _ (List.mem_of_getElem? (i := 18) (by decide +kernel))) hw hA hsz (N2 := 75) (by omega) 0 rfl (fun _ => rfl) (by decide) (by decide) (Nat.le_of_ble_eq_true rfl) (Nat.le_of_ble_eq_true rfl) dX2_init_16 (fun w_9 H ew_10 hw => ?_)
  have hc_11 : w_9 72 = .inr (1, [.ref (adn b0 73), .null, .null, .int (nI 0), .int (nI 0), .long (lN 0), .int (nI 0)]) := by rw [ew_10]; exact (va_up_ne _ _ (by omega)).trans hc_7
  have hc_12 : w_9 73 = .inl (cJ, 301, .inr (.inl (fun _ => lN 0))) := by rw [ew_10]; exact (va_up_ne _ _ (by omega)).trans hc_8
  have hc_13 : w_9 74 = .inl (cI, 17, .inl (fun _ => nI 0)) := by rw [ew_10]; exact va_up_self _ _ _
  refine pF_X2_15 hx hb hts hown hin hw (by omega) hc_11 (Nat.le_of_ble_eq_true rfl) dX2_init_18 (fun w_14 H locs ew_15 hw => ?_)
  have hc_16 : w_14 72 = .inr (1, [.ref (adn b0 73), .ref (adn b0 74), .null, .int (nI 0), .int (nI 0), .long (lN 0), .int (nI 0)]) := by rw [ew_15]; exact va_up_self _ _ _
  have hc_17 : w_14 73 = .inl (cJ, 301, .inr (.inl (fun _ => lN 0))) := by rw [ew_15]; exact (va_up_ne _ _ (by omega)).trans hc_12
  have hc_18 : w_14 74 = .inl (cI, 17, .inl (fun _ => nI 0)) := by rw [ew_15]; exact (va_up_ne _ _ (by omega)).trans hc_13
  refine lv_aload_n hx hb dX2_init_21 rfl (lv_at hl 0 rfl) ?_
  refine lv_bipush (v := nI 16) hx hb dX2_init_22 (by decide) ?_
  refine x_sized hw (by omega) (by omega) (fun hsz => ?_)
  refine x_newa (atype := .int) (a0 := (16, .inl (fun _ => nI 0))) hx hb rfl (hts _ (List.mem_of_getElem? (i := 18) (by decide +kernel))) hw hA hsz (N2 := 76) (by omega) 0 rfl (fun _ => rfl) (by decide) (by decide) (Nat.le_of_ble_eq_true rfl) (Nat.le_of_ble_eq_true rfl) dX2_init_24 (fun w_19 H ew_20 hw => ?_)
  have hc_21 : w_19 72 = .inr (1, [.ref (adn b0 73), .ref (adn b0 74), .null, .int (nI 0), .int (nI 0), .long (lN 0), .int (nI 0)]) := by rw [ew_20]; exact (va_up_ne _ _ (by omega)).trans hc_16
  have hc_22 : w_19 73 = .inl (cJ, 301, .inr (.inl (fun _ => lN 0))) := by rw [ew_20]; exact (va_up_ne _ _ (by omega)).trans hc_17
  have hc_23 : w_19 74 = .inl (cI, 17, .inl (fun _ => nI 0)) := by rw [ew_20]; exact (va_up_ne _ _ (by omega)).trans hc_18
  have hc_24 : w_19 75 = .inl (cI, 16, .inl (fun _ => nI 0)) := by rw [ew_20]; exact va_up_self _ _ _
  refine pF_X2_19 hx hb hts hown hin hw (by omega) hc_21 (Nat.le_of_ble_eq_true rfl) dX2_init_26 (fun w_25 H locs ew_26 hw => ?_)
  have hc_27 : w_25 72 = .inr (1, [.ref (adn b0 73), .ref (adn b0 74), .ref (adn b0 75), .int (nI 0), .int (nI 0), .long (lN 0), .int (nI 0)]) := by rw [ew_26]; exact va_up_self _ _ _
  have hc_28 : w_25 73 = .inl (cJ, 301, .inr (.inl (fun _ => lN 0))) := by rw [ew_26]; exact (va_up_ne _ _ (by omega)).trans hc_22
  have hc_29 : w_25 74 = .inl (cI, 17, .inl (fun _ => nI 0)) := by rw [ew_26]; exact (va_up_ne _ _ (by omega)).trans hc_23
  have hc_30 : w_25 75 = .inl (cI, 16, .inl (fun _ => nI 0)) := by rw [ew_26]; exact (va_up_ne _ _ (by omega)).trans hc_24
  refine lv_aload_n hx hb dX2_init_29 rfl (lv_at hl 0 rfl) ?_
  refine gf_X2_19 hx hb hts hown hw (by decide) hc_27 rfl dX2_init_30 ?_
  refine lv_iconst (v := nI 1) hx hb dX2_init_33 (by decide) ?_
  refine lv_iconst (v := nI 1) hx hb dX2_init_34 (by decide) ?_
  refine x_iast hx hb hw (by decide) 0 hc_30 rfl (j := 1) (by omega) (by decide) dX2_init_35 (fun w_31 H locs ew_32 hw => ?_)
  have hc_33 : w_31 72 = .inr (1, [.ref (adn b0 73), .ref (adn b0 74), .ref (adn b0 75), .int (nI 0), .int (nI 0), .long (lN 0), .int (nI 0)]) := by rw [ew_32]; exact (va_up_ne _ _ (by omega)).trans hc_27
  have hc_34 : w_31 73 = .inl (cJ, 301, .inr (.inl (fun _ => lN 0))) := by rw [ew_32]; exact (va_up_ne _ _ (by omega)).trans hc_28
  have hc_35 : w_31 74 = .inl (cI, 17, .inl (fun _ => nI 0)) := by rw [ew_32]; exact (va_up_ne _ _ (by omega)).trans hc_29
  have hc_36 : w_31 75 = .inl (cI, 16, .inl (upd (fun _ => nI 0) 1 (nI 1))) := by rw [ew_32]; exact va_up_self _ _ _
  refine lv_iconst (v := nI 2) hx hb dX2_init_36 (by decide) ?_
  refine lv_istore_n (lv' := [(1, .int (nI 2)), (0, .ref (adn b0 72))]) hx hb dX2_init_37 rfl hl (by decide) rfl (fun ls hl => ?_)
  have hf1 : ∀ z, z ≠ 73 → z ≠ 72 → z ≠ 74 → z ≠ 75 → w_31 z = w z := fun z hhf10 hhf11 hhf12 hhf13 => by rw [ew_32, va_up_ne _ _ hhf13, ew_26, va_up_ne _ _ hhf11, ew_20, va_up_ne _ _ hhf13, ew_15, va_up_ne _ _ hhf11, ew_10, va_up_ne _ _ hhf12, ew_6, va_up_ne _ _ hhf11, ew_2, va_up_ne _ _ hhf10]
  refine k_initR_loop (w0 := w_31) hC hc_33 (fun ivf w9 ls H locs hfr h75 hiv hw => ?_) 14 0 _ _ ls H locs (by decide) (fun _ _ => rfl) hc_36 (fun d h1 h2 => ?_) hw (lv_sub hl [1, 0] rfl)
  · exact x_nret hx hb hr hlocks hw ⟨fun z hz => (hfr z (by omega)).trans (hf1 z (by omega) (by omega) (by omega) (by omega)), (hfr 72 (by decide)).trans hc_33, (hfr 73 (by decide)).trans hc_34, (hfr 74 (by decide)).trans hc_35, ivf, h75, hiv⟩ dX2_init_80
  · obtain rfl : d = 1 := by omega
    exact upd_s _ _ _
set_option maxHeartbeats 4000000 in
set_option maxRecDepth 100000 in
theorem k_initM (l : Launch) {D : va_G} {cI cJ cZ cD : ClassId} {b0 : Nat} {w : Nat → va_E} (ks pt : Nat → Nat) (co sh : Nat → Nat → Nat) (vs : Nat → Int64) (hM : w 77 = .inr (4, [.int (nI 0), .int (nI 0), .int (nI 0), .int (nI 0), .null, .null, .null, .null, .null, .null, .int (nI 0), .null, .null, .null, .int (nI 0), .int (nI 0), .null, .long (lN 0)])) : MN l yX5_init (.code yX5_init cX5_init 1 none) ({ frames := 1, cells := 10, slots := 1542, locals := 12 }) [.ref (adn b0 77)] D (tyL cI cJ cZ cD) (fun _ => True) b0 (78) w (88) 10 1542 (fun u => (∀ z, z < 77 → u z = w z) ∧ RM (adn b0) cJ cZ u (nI 0) 0 0 0 0 0 0 (fun _ => 0) (fun _ => 0) (fun _ => 0) ks pt co sh vs) := by
  refine MN.of (by decide) rfl (Nat.le_of_ble_eq_true rfl) ?_
  intro p e s m below meth c ls hC hr hlocks hin hl hw hs0 hE
  obtain ⟨hx, hb, hml, hown, hts⟩ := id hC
  have hA : ∀ q, s.heap.size ≤ q → xA (adn b0) (78) (b0 + (78)) q := fun q h => Or.inr (by omega)
  have hl : lv_has ls 1 [(0, .ref (adn b0 77))] := hl
  refine lv_aload_n hx hb dX5_init_0 rfl (lv_at hl 0 rfl) ?_
  refine W.objInit hx hb hown (hts _ (List.mem_of_getElem? (i := 58) (by decide +kernel))) (hts _ (List.mem_of_getElem? (i := 12) (by decide +kernel))) (hts _ (List.mem_of_getElem? (i := 13) (by decide +kernel))) rfl (by rw [hml]; exact hl.1) rfl dX5_init_1 (Nat.le_of_ble_eq_true rfl) (Nat.le_of_ble_eq_true rfl) ?_
  refine lv_aload_n hx hb dX5_init_4 rfl (lv_at hl 0 rfl) ?_
  refine lv_bipush (v := nI 17) hx hb dX5_init_5 (by decide) ?_
  refine x_sized hw (by omega) (by omega) (fun hsz => ?_)
  refine x_newa (atype := .boolean) (a0 := (17, .inl (fun _ => nI 0))) hx hb rfl (hts _ (List.mem_of_getElem? (i := 59) (by decide +kernel))) hw hA hsz (N2 := 79) (by omega) 2 rfl (fun _ => rfl) (by decide) (by decide) (Nat.le_of_ble_eq_true rfl) (Nat.le_of_ble_eq_true rfl) dX5_init_7 (fun w_1 H ew_2 hw => ?_)
  have hc_3 : w_1 77 = .inr (4, [.int (nI 0), .int (nI 0), .int (nI 0), .int (nI 0), .null, .null, .null, .null, .null, .null, .int (nI 0), .null, .null, .null, .int (nI 0), .int (nI 0), .null, .long (lN 0)]) := by rw [ew_2]; exact (va_up_ne _ _ (by omega)).trans hM
  have hc_4 : w_1 78 = .inl (cZ, 17, .inl (fun _ => nI 0)) := by rw [ew_2]; exact va_up_self _ _ _
  refine pF_X5_7 hx hb hts hown hin hw (by omega) hc_3 (Nat.le_of_ble_eq_true rfl) dX5_init_9 (fun w_5 H locs ew_6 hw => ?_)
  have hc_7 : w_5 77 = .inr (4, [.int (nI 0), .int (nI 0), .int (nI 0), .int (nI 0), .ref (adn b0 78), .null, .null, .null, .null, .null, .int (nI 0), .null, .null, .null, .int (nI 0), .int (nI 0), .null, .long (lN 0)]) := by rw [ew_6]; exact va_up_self _ _ _
  have hc_8 : w_5 78 = .inl (cZ, 17, .inl (fun _ => nI 0)) := by rw [ew_6]; exact (va_up_ne _ _ (by omega)).trans hc_4
  refine lv_aload_n hx hb dX5_init_12 rfl (lv_at hl 0 rfl) ?_
  refine lv_bipush (v := nI 17) hx hb dX5_init_13 (by decide) ?_
  refine x_sized hw (by omega) (by omega) (fun hsz => ?_)
  refine x_newa (atype := .boolean) (a0 := (17, .inl (fun _ => nI 0))) hx hb rfl (hts _ (List.mem_of_getElem? (i := 59) (by decide +kernel))) hw hA hsz (N2 := 80) (by omega) 2 rfl (fun _ => rfl) (by decide) (by decide) (Nat.le_of_ble_eq_true rfl) (Nat.le_of_ble_eq_true rfl) dX5_init_15 (fun w_9 H ew_10 hw => ?_)
  have hc_11 : w_9 77 = .inr (4, [.int (nI 0), .int (nI 0), .int (nI 0), .int (nI 0), .ref (adn b0 78), .null, .null, .null, .null, .null, .int (nI 0), .null, .null, .null, .int (nI 0), .int (nI 0), .null, .long (lN 0)]) := by rw [ew_10]; exact (va_up_ne _ _ (by omega)).trans hc_7
  have hc_12 : w_9 78 = .inl (cZ, 17, .inl (fun _ => nI 0)) := by rw [ew_10]; exact (va_up_ne _ _ (by omega)).trans hc_8
  have hc_13 : w_9 79 = .inl (cZ, 17, .inl (fun _ => nI 0)) := by rw [ew_10]; exact va_up_self _ _ _
  refine pF_X5_13 hx hb hts hown hin hw (by omega) hc_11 (Nat.le_of_ble_eq_true rfl) dX5_init_17 (fun w_14 H locs ew_15 hw => ?_)
  have hc_16 : w_14 77 = .inr (4, [.int (nI 0), .int (nI 0), .int (nI 0), .int (nI 0), .ref (adn b0 78), .ref (adn b0 79), .null, .null, .null, .null, .int (nI 0), .null, .null, .null, .int (nI 0), .int (nI 0), .null, .long (lN 0)]) := by rw [ew_15]; exact va_up_self _ _ _
  have hc_17 : w_14 78 = .inl (cZ, 17, .inl (fun _ => nI 0)) := by rw [ew_15]; exact (va_up_ne _ _ (by omega)).trans hc_12
  have hc_18 : w_14 79 = .inl (cZ, 17, .inl (fun _ => nI 0)) := by rw [ew_15]; exact (va_up_ne _ _ (by omega)).trans hc_13
  refine lv_aload_n hx hb dX5_init_20 rfl (lv_at hl 0 rfl) ?_
  refine lv_sipush (v := nI 289) hx hb dX5_init_21 (by decide) ?_
  refine x_sized hw (by omega) (by omega) (fun hsz => ?_)
  refine x_newa (atype := .long) (a0 := (289, .inr (.inl (fun _ => lN 0)))) hx hb rfl (hts _ (List.mem_of_getElem? (i := 6) (by decide +kernel))) hw hA hsz (N2 := 81) (by omega) 1 rfl (fun _ => rfl) (by decide) (by decide) (Nat.le_of_ble_eq_true rfl) (Nat.le_of_ble_eq_true rfl) dX5_init_24 (fun w_19 H ew_20 hw => ?_)
  have hc_21 : w_19 77 = .inr (4, [.int (nI 0), .int (nI 0), .int (nI 0), .int (nI 0), .ref (adn b0 78), .ref (adn b0 79), .null, .null, .null, .null, .int (nI 0), .null, .null, .null, .int (nI 0), .int (nI 0), .null, .long (lN 0)]) := by rw [ew_20]; exact (va_up_ne _ _ (by omega)).trans hc_16
  have hc_22 : w_19 78 = .inl (cZ, 17, .inl (fun _ => nI 0)) := by rw [ew_20]; exact (va_up_ne _ _ (by omega)).trans hc_17
  have hc_23 : w_19 79 = .inl (cZ, 17, .inl (fun _ => nI 0)) := by rw [ew_20]; exact (va_up_ne _ _ (by omega)).trans hc_18
  have hc_24 : w_19 80 = .inl (cJ, 289, .inr (.inl (fun _ => lN 0))) := by rw [ew_20]; exact va_up_self _ _ _
  refine pF_X5_16 hx hb hts hown hin hw (by omega) hc_21 (Nat.le_of_ble_eq_true rfl) dX5_init_26 (fun w_25 H locs ew_26 hw => ?_)
  have hc_27 : w_25 77 = .inr (4, [.int (nI 0), .int (nI 0), .int (nI 0), .int (nI 0), .ref (adn b0 78), .ref (adn b0 79), .ref (adn b0 80), .null, .null, .null, .int (nI 0), .null, .null, .null, .int (nI 0), .int (nI 0), .null, .long (lN 0)]) := by rw [ew_26]; exact va_up_self _ _ _
  have hc_28 : w_25 78 = .inl (cZ, 17, .inl (fun _ => nI 0)) := by rw [ew_26]; exact (va_up_ne _ _ (by omega)).trans hc_22
  have hc_29 : w_25 79 = .inl (cZ, 17, .inl (fun _ => nI 0)) := by rw [ew_26]; exact (va_up_ne _ _ (by omega)).trans hc_23
  have hc_30 : w_25 80 = .inl (cJ, 289, .inr (.inl (fun _ => lN 0))) := by rw [ew_26]; exact (va_up_ne _ _ (by omega)).trans hc_24
  refine lv_aload_n hx hb dX5_init_29 rfl (lv_at hl 0 rfl) ?_
  refine lv_sipush (v := nI 289) hx hb dX5_init_30 (by decide) ?_
  refine x_sized hw (by omega) (by omega) (fun hsz => ?_)
  refine x_newa (atype := .long) (a0 := (289, .inr (.inl (fun _ => lN 0)))) hx hb rfl (hts _ (List.mem_of_getElem? (i := 6) (by decide +kernel))) hw hA hsz (N2 := 82) (by omega) 1 rfl (fun _ => rfl) (by decide) (by decide) (Nat.le_of_ble_eq_true rfl) (Nat.le_of_ble_eq_true rfl) dX5_init_33 (fun w_31 H ew_32 hw => ?_)
  have hc_33 : w_31 77 = .inr (4, [.int (nI 0), .int (nI 0), .int (nI 0), .int (nI 0), .ref (adn b0 78), .ref (adn b0 79), .ref (adn b0 80), .null, .null, .null, .int (nI 0), .null, .null, .null, .int (nI 0), .int (nI 0), .null, .long (lN 0)]) := by rw [ew_32]; exact (va_up_ne _ _ (by omega)).trans hc_27
  have hc_34 : w_31 78 = .inl (cZ, 17, .inl (fun _ => nI 0)) := by rw [ew_32]; exact (va_up_ne _ _ (by omega)).trans hc_28
  have hc_35 : w_31 79 = .inl (cZ, 17, .inl (fun _ => nI 0)) := by rw [ew_32]; exact (va_up_ne _ _ (by omega)).trans hc_29
  have hc_36 : w_31 80 = .inl (cJ, 289, .inr (.inl (fun _ => lN 0))) := by rw [ew_32]; exact (va_up_ne _ _ (by omega)).trans hc_30
  have hc_37 : w_31 81 = .inl (cJ, 289, .inr (.inl (fun _ => lN 0))) := by rw [ew_32]; exact va_up_self _ _ _
  refine pF_X5_20 hx hb hts hown hin hw (by omega) hc_33 (Nat.le_of_ble_eq_true rfl) dX5_init_35 (fun w_38 H locs ew_39 hw => ?_)
  have hc_40 : w_38 77 = .inr (4, [.int (nI 0), .int (nI 0), .int (nI 0), .int (nI 0), .ref (adn b0 78), .ref (adn b0 79), .ref (adn b0 80), .ref (adn b0 81), .null, .null, .int (nI 0), .null, .null, .null, .int (nI 0), .int (nI 0), .null, .long (lN 0)]) := by rw [ew_39]; exact va_up_self _ _ _
  have hc_41 : w_38 78 = .inl (cZ, 17, .inl (fun _ => nI 0)) := by rw [ew_39]; exact (va_up_ne _ _ (by omega)).trans hc_34
  have hc_42 : w_38 79 = .inl (cZ, 17, .inl (fun _ => nI 0)) := by rw [ew_39]; exact (va_up_ne _ _ (by omega)).trans hc_35
  have hc_43 : w_38 80 = .inl (cJ, 289, .inr (.inl (fun _ => lN 0))) := by rw [ew_39]; exact (va_up_ne _ _ (by omega)).trans hc_36
  have hc_44 : w_38 81 = .inl (cJ, 289, .inr (.inl (fun _ => lN 0))) := by rw [ew_39]; exact (va_up_ne _ _ (by omega)).trans hc_37
  refine lv_aload_n hx hb dX5_init_38 rfl (lv_at hl 0 rfl) ?_
  refine lv_sipush (v := nI 289) hx hb dX5_init_39 (by decide) ?_
  refine x_sized hw (by omega) (by omega) (fun hsz => ?_)
  refine x_newa (atype := .long) (a0 := (289, .inr (.inl (fun _ => lN 0)))) hx hb rfl (hts _ (List.mem_of_getElem? (i := 6) (by decide +kernel))) hw hA hsz (N2 := 83) (by omega) 1 rfl (fun _ => rfl) (by decide) (by decide) (Nat.le_of_ble_eq_true rfl) (Nat.le_of_ble_eq_true rfl) dX5_init_42 (fun w_45 H ew_46 hw => ?_)
  have hc_47 : w_45 77 = .inr (4, [.int (nI 0), .int (nI 0), .int (nI 0), .int (nI 0), .ref (adn b0 78), .ref (adn b0 79), .ref (adn b0 80), .ref (adn b0 81), .null, .null, .int (nI 0), .null, .null, .null, .int (nI 0), .int (nI 0), .null, .long (lN 0)]) := by rw [ew_46]; exact (va_up_ne _ _ (by omega)).trans hc_40
  have hc_48 : w_45 78 = .inl (cZ, 17, .inl (fun _ => nI 0)) := by rw [ew_46]; exact (va_up_ne _ _ (by omega)).trans hc_41
  have hc_49 : w_45 79 = .inl (cZ, 17, .inl (fun _ => nI 0)) := by rw [ew_46]; exact (va_up_ne _ _ (by omega)).trans hc_42
  have hc_50 : w_45 80 = .inl (cJ, 289, .inr (.inl (fun _ => lN 0))) := by rw [ew_46]; exact (va_up_ne _ _ (by omega)).trans hc_43
  have hc_51 : w_45 81 = .inl (cJ, 289, .inr (.inl (fun _ => lN 0))) := by rw [ew_46]; exact (va_up_ne _ _ (by omega)).trans hc_44
  have hc_52 : w_45 82 = .inl (cJ, 289, .inr (.inl (fun _ => lN 0))) := by rw [ew_46]; exact va_up_self _ _ _
  refine pF_X5_23 hx hb hts hown hin hw (by omega) hc_47 (Nat.le_of_ble_eq_true rfl) dX5_init_44 (fun w_53 H locs ew_54 hw => ?_)
  have hc_55 : w_53 77 = .inr (4, [.int (nI 0), .int (nI 0), .int (nI 0), .int (nI 0), .ref (adn b0 78), .ref (adn b0 79), .ref (adn b0 80), .ref (adn b0 81), .ref (adn b0 82), .null, .int (nI 0), .null, .null, .null, .int (nI 0), .int (nI 0), .null, .long (lN 0)]) := by rw [ew_54]; exact va_up_self _ _ _
  have hc_56 : w_53 78 = .inl (cZ, 17, .inl (fun _ => nI 0)) := by rw [ew_54]; exact (va_up_ne _ _ (by omega)).trans hc_48
  have hc_57 : w_53 79 = .inl (cZ, 17, .inl (fun _ => nI 0)) := by rw [ew_54]; exact (va_up_ne _ _ (by omega)).trans hc_49
  have hc_58 : w_53 80 = .inl (cJ, 289, .inr (.inl (fun _ => lN 0))) := by rw [ew_54]; exact (va_up_ne _ _ (by omega)).trans hc_50
  have hc_59 : w_53 81 = .inl (cJ, 289, .inr (.inl (fun _ => lN 0))) := by rw [ew_54]; exact (va_up_ne _ _ (by omega)).trans hc_51
  have hc_60 : w_53 82 = .inl (cJ, 289, .inr (.inl (fun _ => lN 0))) := by rw [ew_54]; exact (va_up_ne _ _ (by omega)).trans hc_52
  refine lv_aload_n hx hb dX5_init_47 rfl (lv_at hl 0 rfl) ?_
  refine lv_sipush (v := nI 289) hx hb dX5_init_48 (by decide) ?_
  refine x_sized hw (by omega) (by omega) (fun hsz => ?_)
  refine x_newa (atype := .boolean) (a0 := (289, .inl (fun _ => nI 0))) hx hb rfl (hts _ (List.mem_of_getElem? (i := 59) (by decide +kernel))) hw hA hsz (N2 := 84) (by omega) 2 rfl (fun _ => rfl) (by decide) (by decide) (Nat.le_of_ble_eq_true rfl) (Nat.le_of_ble_eq_true rfl) dX5_init_51 (fun w_61 H ew_62 hw => ?_)
  have hc_63 : w_61 77 = .inr (4, [.int (nI 0), .int (nI 0), .int (nI 0), .int (nI 0), .ref (adn b0 78), .ref (adn b0 79), .ref (adn b0 80), .ref (adn b0 81), .ref (adn b0 82), .null, .int (nI 0), .null, .null, .null, .int (nI 0), .int (nI 0), .null, .long (lN 0)]) := by rw [ew_62]; exact (va_up_ne _ _ (by omega)).trans hc_55
  have hc_64 : w_61 78 = .inl (cZ, 17, .inl (fun _ => nI 0)) := by rw [ew_62]; exact (va_up_ne _ _ (by omega)).trans hc_56
  have hc_65 : w_61 79 = .inl (cZ, 17, .inl (fun _ => nI 0)) := by rw [ew_62]; exact (va_up_ne _ _ (by omega)).trans hc_57
  have hc_66 : w_61 80 = .inl (cJ, 289, .inr (.inl (fun _ => lN 0))) := by rw [ew_62]; exact (va_up_ne _ _ (by omega)).trans hc_58
  have hc_67 : w_61 81 = .inl (cJ, 289, .inr (.inl (fun _ => lN 0))) := by rw [ew_62]; exact (va_up_ne _ _ (by omega)).trans hc_59
  have hc_68 : w_61 82 = .inl (cJ, 289, .inr (.inl (fun _ => lN 0))) := by rw [ew_62]; exact (va_up_ne _ _ (by omega)).trans hc_60
  have hc_69 : w_61 83 = .inl (cZ, 289, .inl (fun _ => nI 0)) := by rw [ew_62]; exact va_up_self _ _ _
  refine pF_X5_26 hx hb hts hown hin hw (by omega) hc_63 (Nat.le_of_ble_eq_true rfl) dX5_init_53 (fun w_70 H locs ew_71 hw => ?_)
  have hc_72 : w_70 77 = .inr (4, [.int (nI 0), .int (nI 0), .int (nI 0), .int (nI 0), .ref (adn b0 78), .ref (adn b0 79), .ref (adn b0 80), .ref (adn b0 81), .ref (adn b0 82), .ref (adn b0 83), .int (nI 0), .null, .null, .null, .int (nI 0), .int (nI 0), .null, .long (lN 0)]) := by rw [ew_71]; exact va_up_self _ _ _
  have hc_73 : w_70 78 = .inl (cZ, 17, .inl (fun _ => nI 0)) := by rw [ew_71]; exact (va_up_ne _ _ (by omega)).trans hc_64
  have hc_74 : w_70 79 = .inl (cZ, 17, .inl (fun _ => nI 0)) := by rw [ew_71]; exact (va_up_ne _ _ (by omega)).trans hc_65
  have hc_75 : w_70 80 = .inl (cJ, 289, .inr (.inl (fun _ => lN 0))) := by rw [ew_71]; exact (va_up_ne _ _ (by omega)).trans hc_66
  have hc_76 : w_70 81 = .inl (cJ, 289, .inr (.inl (fun _ => lN 0))) := by rw [ew_71]; exact (va_up_ne _ _ (by omega)).trans hc_67
  have hc_77 : w_70 82 = .inl (cJ, 289, .inr (.inl (fun _ => lN 0))) := by rw [ew_71]; exact (va_up_ne _ _ (by omega)).trans hc_68
  have hc_78 : w_70 83 = .inl (cZ, 289, .inl (fun _ => nI 0)) := by rw [ew_71]; exact (va_up_ne _ _ (by omega)).trans hc_69
  refine lv_aload_n hx hb dX5_init_56 rfl (lv_at hl 0 rfl) ?_
  refine lv_bipush (v := nI 17) hx hb dX5_init_57 (by decide) ?_
  refine x_sized hw (by omega) (by omega) (fun hsz => ?_)
  refine x_newa (atype := .long) (a0 := (17, .inr (.inl (fun _ => lN 0)))) hx hb rfl (hts _ (List.mem_of_getElem? (i := 6) (by decide +kernel))) hw hA hsz (N2 := 85) (by omega) 1 rfl (fun _ => rfl) (by decide) (by decide) (Nat.le_of_ble_eq_true rfl) (Nat.le_of_ble_eq_true rfl) dX5_init_59 (fun w_79 H ew_80 hw => ?_)
  have hc_81 : w_79 77 = .inr (4, [.int (nI 0), .int (nI 0), .int (nI 0), .int (nI 0), .ref (adn b0 78), .ref (adn b0 79), .ref (adn b0 80), .ref (adn b0 81), .ref (adn b0 82), .ref (adn b0 83), .int (nI 0), .null, .null, .null, .int (nI 0), .int (nI 0), .null, .long (lN 0)]) := by rw [ew_80]; exact (va_up_ne _ _ (by omega)).trans hc_72
  have hc_82 : w_79 78 = .inl (cZ, 17, .inl (fun _ => nI 0)) := by rw [ew_80]; exact (va_up_ne _ _ (by omega)).trans hc_73
  have hc_83 : w_79 79 = .inl (cZ, 17, .inl (fun _ => nI 0)) := by rw [ew_80]; exact (va_up_ne _ _ (by omega)).trans hc_74
  have hc_84 : w_79 80 = .inl (cJ, 289, .inr (.inl (fun _ => lN 0))) := by rw [ew_80]; exact (va_up_ne _ _ (by omega)).trans hc_75
  have hc_85 : w_79 81 = .inl (cJ, 289, .inr (.inl (fun _ => lN 0))) := by rw [ew_80]; exact (va_up_ne _ _ (by omega)).trans hc_76
  have hc_86 : w_79 82 = .inl (cJ, 289, .inr (.inl (fun _ => lN 0))) := by rw [ew_80]; exact (va_up_ne _ _ (by omega)).trans hc_77
  have hc_87 : w_79 83 = .inl (cZ, 289, .inl (fun _ => nI 0)) := by rw [ew_80]; exact (va_up_ne _ _ (by omega)).trans hc_78
  have hc_88 : w_79 84 = .inl (cJ, 17, .inr (.inl (fun _ => lN 0))) := by rw [ew_80]; exact va_up_self _ _ _
  refine pF_X5_29 hx hb hts hown hin hw (by omega) hc_81 (Nat.le_of_ble_eq_true rfl) dX5_init_61 (fun w_89 H locs ew_90 hw => ?_)
  have hc_91 : w_89 77 = .inr (4, [.int (nI 0), .int (nI 0), .int (nI 0), .int (nI 0), .ref (adn b0 78), .ref (adn b0 79), .ref (adn b0 80), .ref (adn b0 81), .ref (adn b0 82), .ref (adn b0 83), .int (nI 0), .ref (adn b0 84), .null, .null, .int (nI 0), .int (nI 0), .null, .long (lN 0)]) := by rw [ew_90]; exact va_up_self _ _ _
  have hc_92 : w_89 78 = .inl (cZ, 17, .inl (fun _ => nI 0)) := by rw [ew_90]; exact (va_up_ne _ _ (by omega)).trans hc_82
  have hc_93 : w_89 79 = .inl (cZ, 17, .inl (fun _ => nI 0)) := by rw [ew_90]; exact (va_up_ne _ _ (by omega)).trans hc_83
  have hc_94 : w_89 80 = .inl (cJ, 289, .inr (.inl (fun _ => lN 0))) := by rw [ew_90]; exact (va_up_ne _ _ (by omega)).trans hc_84
  have hc_95 : w_89 81 = .inl (cJ, 289, .inr (.inl (fun _ => lN 0))) := by rw [ew_90]; exact (va_up_ne _ _ (by omega)).trans hc_85
  have hc_96 : w_89 82 = .inl (cJ, 289, .inr (.inl (fun _ => lN 0))) := by rw [ew_90]; exact (va_up_ne _ _ (by omega)).trans hc_86
  have hc_97 : w_89 83 = .inl (cZ, 289, .inl (fun _ => nI 0)) := by rw [ew_90]; exact (va_up_ne _ _ (by omega)).trans hc_87
  have hc_98 : w_89 84 = .inl (cJ, 17, .inr (.inl (fun _ => lN 0))) := by rw [ew_90]; exact (va_up_ne _ _ (by omega)).trans hc_88
  refine lv_aload_n hx hb dX5_init_64 rfl (lv_at hl 0 rfl) ?_
  refine lv_bipush (v := nI 17) hx hb dX5_init_65 (by decide) ?_
  refine x_sized hw (by omega) (by omega) (fun hsz => ?_)
  refine x_newa (atype := .long) (a0 := (17, .inr (.inl (fun _ => lN 0)))) hx hb rfl (hts _ (List.mem_of_getElem? (i := 6) (by decide +kernel))) hw hA hsz (N2 := 86) (by omega) 1 rfl (fun _ => rfl) (by decide) (by decide) (Nat.le_of_ble_eq_true rfl) (Nat.le_of_ble_eq_true rfl) dX5_init_67 (fun w_99 H ew_100 hw => ?_)
  have hc_101 : w_99 77 = .inr (4, [.int (nI 0), .int (nI 0), .int (nI 0), .int (nI 0), .ref (adn b0 78), .ref (adn b0 79), .ref (adn b0 80), .ref (adn b0 81), .ref (adn b0 82), .ref (adn b0 83), .int (nI 0), .ref (adn b0 84), .null, .null, .int (nI 0), .int (nI 0), .null, .long (lN 0)]) := by rw [ew_100]; exact (va_up_ne _ _ (by omega)).trans hc_91
  have hc_102 : w_99 78 = .inl (cZ, 17, .inl (fun _ => nI 0)) := by rw [ew_100]; exact (va_up_ne _ _ (by omega)).trans hc_92
  have hc_103 : w_99 79 = .inl (cZ, 17, .inl (fun _ => nI 0)) := by rw [ew_100]; exact (va_up_ne _ _ (by omega)).trans hc_93
  have hc_104 : w_99 80 = .inl (cJ, 289, .inr (.inl (fun _ => lN 0))) := by rw [ew_100]; exact (va_up_ne _ _ (by omega)).trans hc_94
  have hc_105 : w_99 81 = .inl (cJ, 289, .inr (.inl (fun _ => lN 0))) := by rw [ew_100]; exact (va_up_ne _ _ (by omega)).trans hc_95
  have hc_106 : w_99 82 = .inl (cJ, 289, .inr (.inl (fun _ => lN 0))) := by rw [ew_100]; exact (va_up_ne _ _ (by omega)).trans hc_96
  have hc_107 : w_99 83 = .inl (cZ, 289, .inl (fun _ => nI 0)) := by rw [ew_100]; exact (va_up_ne _ _ (by omega)).trans hc_97
  have hc_108 : w_99 84 = .inl (cJ, 17, .inr (.inl (fun _ => lN 0))) := by rw [ew_100]; exact (va_up_ne _ _ (by omega)).trans hc_98
  have hc_109 : w_99 85 = .inl (cJ, 17, .inr (.inl (fun _ => lN 0))) := by rw [ew_100]; exact va_up_self _ _ _
  refine pF_X5_32 hx hb hts hown hin hw (by omega) hc_101 (Nat.le_of_ble_eq_true rfl) dX5_init_69 (fun w_110 H locs ew_111 hw => ?_)
  have hc_112 : w_110 77 = .inr (4, [.int (nI 0), .int (nI 0), .int (nI 0), .int (nI 0), .ref (adn b0 78), .ref (adn b0 79), .ref (adn b0 80), .ref (adn b0 81), .ref (adn b0 82), .ref (adn b0 83), .int (nI 0), .ref (adn b0 84), .ref (adn b0 85), .null, .int (nI 0), .int (nI 0), .null, .long (lN 0)]) := by rw [ew_111]; exact va_up_self _ _ _
  have hc_113 : w_110 78 = .inl (cZ, 17, .inl (fun _ => nI 0)) := by rw [ew_111]; exact (va_up_ne _ _ (by omega)).trans hc_102
  have hc_114 : w_110 79 = .inl (cZ, 17, .inl (fun _ => nI 0)) := by rw [ew_111]; exact (va_up_ne _ _ (by omega)).trans hc_103
  have hc_115 : w_110 80 = .inl (cJ, 289, .inr (.inl (fun _ => lN 0))) := by rw [ew_111]; exact (va_up_ne _ _ (by omega)).trans hc_104
  have hc_116 : w_110 81 = .inl (cJ, 289, .inr (.inl (fun _ => lN 0))) := by rw [ew_111]; exact (va_up_ne _ _ (by omega)).trans hc_105
  have hc_117 : w_110 82 = .inl (cJ, 289, .inr (.inl (fun _ => lN 0))) := by rw [ew_111]; exact (va_up_ne _ _ (by omega)).trans hc_106
  have hc_118 : w_110 83 = .inl (cZ, 289, .inl (fun _ => nI 0)) := by rw [ew_111]; exact (va_up_ne _ _ (by omega)).trans hc_107
  have hc_119 : w_110 84 = .inl (cJ, 17, .inr (.inl (fun _ => lN 0))) := by rw [ew_111]; exact (va_up_ne _ _ (by omega)).trans hc_108
  have hc_120 : w_110 85 = .inl (cJ, 17, .inr (.inl (fun _ => lN 0))) := by rw [ew_111]; exact (va_up_ne _ _ (by omega)).trans hc_109
  refine lv_aload_n hx hb dX5_init_72 rfl (lv_at hl 0 rfl) ?_
  refine lv_sipush (v := nI 301) hx hb dX5_init_73 (by decide) ?_
  refine x_sized hw (by omega) (by omega) (fun hsz => ?_)
  refine x_newa (atype := .long) (a0 := (301, .inr (.inl (fun _ => lN 0)))) hx hb rfl (hts _ (List.mem_of_getElem? (i := 6) (by decide +kernel))) hw hA hsz (N2 := 87) (by omega) 1 rfl (fun _ => rfl) (by decide) (by decide) (Nat.le_of_ble_eq_true rfl) (Nat.le_of_ble_eq_true rfl) dX5_init_76 (fun w_121 H ew_122 hw => ?_)
  have hc_123 : w_121 77 = .inr (4, [.int (nI 0), .int (nI 0), .int (nI 0), .int (nI 0), .ref (adn b0 78), .ref (adn b0 79), .ref (adn b0 80), .ref (adn b0 81), .ref (adn b0 82), .ref (adn b0 83), .int (nI 0), .ref (adn b0 84), .ref (adn b0 85), .null, .int (nI 0), .int (nI 0), .null, .long (lN 0)]) := by rw [ew_122]; exact (va_up_ne _ _ (by omega)).trans hc_112
  have hc_124 : w_121 78 = .inl (cZ, 17, .inl (fun _ => nI 0)) := by rw [ew_122]; exact (va_up_ne _ _ (by omega)).trans hc_113
  have hc_125 : w_121 79 = .inl (cZ, 17, .inl (fun _ => nI 0)) := by rw [ew_122]; exact (va_up_ne _ _ (by omega)).trans hc_114
  have hc_126 : w_121 80 = .inl (cJ, 289, .inr (.inl (fun _ => lN 0))) := by rw [ew_122]; exact (va_up_ne _ _ (by omega)).trans hc_115
  have hc_127 : w_121 81 = .inl (cJ, 289, .inr (.inl (fun _ => lN 0))) := by rw [ew_122]; exact (va_up_ne _ _ (by omega)).trans hc_116
  have hc_128 : w_121 82 = .inl (cJ, 289, .inr (.inl (fun _ => lN 0))) := by rw [ew_122]; exact (va_up_ne _ _ (by omega)).trans hc_117
  have hc_129 : w_121 83 = .inl (cZ, 289, .inl (fun _ => nI 0)) := by rw [ew_122]; exact (va_up_ne _ _ (by omega)).trans hc_118
  have hc_130 : w_121 84 = .inl (cJ, 17, .inr (.inl (fun _ => lN 0))) := by rw [ew_122]; exact (va_up_ne _ _ (by omega)).trans hc_119
  have hc_131 : w_121 85 = .inl (cJ, 17, .inr (.inl (fun _ => lN 0))) := by rw [ew_122]; exact (va_up_ne _ _ (by omega)).trans hc_120
  have hc_132 : w_121 86 = .inl (cJ, 301, .inr (.inl (fun _ => lN 0))) := by rw [ew_122]; exact va_up_self _ _ _
  refine pF_X5_35 hx hb hts hown hin hw (by omega) hc_123 (Nat.le_of_ble_eq_true rfl) dX5_init_78 (fun w_133 H locs ew_134 hw => ?_)
  have hc_135 : w_133 77 = .inr (4, [.int (nI 0), .int (nI 0), .int (nI 0), .int (nI 0), .ref (adn b0 78), .ref (adn b0 79), .ref (adn b0 80), .ref (adn b0 81), .ref (adn b0 82), .ref (adn b0 83), .int (nI 0), .ref (adn b0 84), .ref (adn b0 85), .ref (adn b0 86), .int (nI 0), .int (nI 0), .null, .long (lN 0)]) := by rw [ew_134]; exact va_up_self _ _ _
  have hc_136 : w_133 78 = .inl (cZ, 17, .inl (fun _ => nI 0)) := by rw [ew_134]; exact (va_up_ne _ _ (by omega)).trans hc_124
  have hc_137 : w_133 79 = .inl (cZ, 17, .inl (fun _ => nI 0)) := by rw [ew_134]; exact (va_up_ne _ _ (by omega)).trans hc_125
  have hc_138 : w_133 80 = .inl (cJ, 289, .inr (.inl (fun _ => lN 0))) := by rw [ew_134]; exact (va_up_ne _ _ (by omega)).trans hc_126
  have hc_139 : w_133 81 = .inl (cJ, 289, .inr (.inl (fun _ => lN 0))) := by rw [ew_134]; exact (va_up_ne _ _ (by omega)).trans hc_127
  have hc_140 : w_133 82 = .inl (cJ, 289, .inr (.inl (fun _ => lN 0))) := by rw [ew_134]; exact (va_up_ne _ _ (by omega)).trans hc_128
  have hc_141 : w_133 83 = .inl (cZ, 289, .inl (fun _ => nI 0)) := by rw [ew_134]; exact (va_up_ne _ _ (by omega)).trans hc_129
  have hc_142 : w_133 84 = .inl (cJ, 17, .inr (.inl (fun _ => lN 0))) := by rw [ew_134]; exact (va_up_ne _ _ (by omega)).trans hc_130
  have hc_143 : w_133 85 = .inl (cJ, 17, .inr (.inl (fun _ => lN 0))) := by rw [ew_134]; exact (va_up_ne _ _ (by omega)).trans hc_131
  have hc_144 : w_133 86 = .inl (cJ, 301, .inr (.inl (fun _ => lN 0))) := by rw [ew_134]; exact (va_up_ne _ _ (by omega)).trans hc_132
  refine lv_aload_n hx hb dX5_init_81 rfl (lv_at hl 0 rfl) ?_
  refine lv_bipush (v := nI 17) hx hb dX5_init_82 (by decide) ?_
  refine x_sized hw (by omega) (by omega) (fun hsz => ?_)
  refine x_newa (atype := .long) (a0 := (17, .inr (.inl (fun _ => lN 0)))) hx hb rfl (hts _ (List.mem_of_getElem? (i := 6) (by decide +kernel))) hw hA hsz (N2 := 88) (by omega) 1 rfl (fun _ => rfl) (by decide) (by decide) (Nat.le_of_ble_eq_true rfl) (Nat.le_of_ble_eq_true rfl) dX5_init_84 (fun w_145 H ew_146 hw => ?_)
  have hc_147 : w_145 77 = .inr (4, [.int (nI 0), .int (nI 0), .int (nI 0), .int (nI 0), .ref (adn b0 78), .ref (adn b0 79), .ref (adn b0 80), .ref (adn b0 81), .ref (adn b0 82), .ref (adn b0 83), .int (nI 0), .ref (adn b0 84), .ref (adn b0 85), .ref (adn b0 86), .int (nI 0), .int (nI 0), .null, .long (lN 0)]) := by rw [ew_146]; exact (va_up_ne _ _ (by omega)).trans hc_135
  have hc_148 : w_145 78 = .inl (cZ, 17, .inl (fun _ => nI 0)) := by rw [ew_146]; exact (va_up_ne _ _ (by omega)).trans hc_136
  have hc_149 : w_145 79 = .inl (cZ, 17, .inl (fun _ => nI 0)) := by rw [ew_146]; exact (va_up_ne _ _ (by omega)).trans hc_137
  have hc_150 : w_145 80 = .inl (cJ, 289, .inr (.inl (fun _ => lN 0))) := by rw [ew_146]; exact (va_up_ne _ _ (by omega)).trans hc_138
  have hc_151 : w_145 81 = .inl (cJ, 289, .inr (.inl (fun _ => lN 0))) := by rw [ew_146]; exact (va_up_ne _ _ (by omega)).trans hc_139
  have hc_152 : w_145 82 = .inl (cJ, 289, .inr (.inl (fun _ => lN 0))) := by rw [ew_146]; exact (va_up_ne _ _ (by omega)).trans hc_140
  have hc_153 : w_145 83 = .inl (cZ, 289, .inl (fun _ => nI 0)) := by rw [ew_146]; exact (va_up_ne _ _ (by omega)).trans hc_141
  have hc_154 : w_145 84 = .inl (cJ, 17, .inr (.inl (fun _ => lN 0))) := by rw [ew_146]; exact (va_up_ne _ _ (by omega)).trans hc_142
  have hc_155 : w_145 85 = .inl (cJ, 17, .inr (.inl (fun _ => lN 0))) := by rw [ew_146]; exact (va_up_ne _ _ (by omega)).trans hc_143
  have hc_156 : w_145 86 = .inl (cJ, 301, .inr (.inl (fun _ => lN 0))) := by rw [ew_146]; exact (va_up_ne _ _ (by omega)).trans hc_144
  have hc_157 : w_145 87 = .inl (cJ, 17, .inr (.inl (fun _ => lN 0))) := by rw [ew_146]; exact va_up_self _ _ _
  refine pF_X5_38 hx hb hts hown hin hw (by omega) hc_147 (Nat.le_of_ble_eq_true rfl) dX5_init_86 (fun w_158 H locs ew_159 hw => ?_)
  have hc_160 : w_158 77 = .inr (4, [.int (nI 0), .int (nI 0), .int (nI 0), .int (nI 0), .ref (adn b0 78), .ref (adn b0 79), .ref (adn b0 80), .ref (adn b0 81), .ref (adn b0 82), .ref (adn b0 83), .int (nI 0), .ref (adn b0 84), .ref (adn b0 85), .ref (adn b0 86), .int (nI 0), .int (nI 0), .ref (adn b0 87), .long (lN 0)]) := by rw [ew_159]; exact va_up_self _ _ _
  have hc_161 : w_158 78 = .inl (cZ, 17, .inl (fun _ => nI 0)) := by rw [ew_159]; exact (va_up_ne _ _ (by omega)).trans hc_148
  have hc_162 : w_158 79 = .inl (cZ, 17, .inl (fun _ => nI 0)) := by rw [ew_159]; exact (va_up_ne _ _ (by omega)).trans hc_149
  have hc_163 : w_158 80 = .inl (cJ, 289, .inr (.inl (fun _ => lN 0))) := by rw [ew_159]; exact (va_up_ne _ _ (by omega)).trans hc_150
  have hc_164 : w_158 81 = .inl (cJ, 289, .inr (.inl (fun _ => lN 0))) := by rw [ew_159]; exact (va_up_ne _ _ (by omega)).trans hc_151
  have hc_165 : w_158 82 = .inl (cJ, 289, .inr (.inl (fun _ => lN 0))) := by rw [ew_159]; exact (va_up_ne _ _ (by omega)).trans hc_152
  have hc_166 : w_158 83 = .inl (cZ, 289, .inl (fun _ => nI 0)) := by rw [ew_159]; exact (va_up_ne _ _ (by omega)).trans hc_153
  have hc_167 : w_158 84 = .inl (cJ, 17, .inr (.inl (fun _ => lN 0))) := by rw [ew_159]; exact (va_up_ne _ _ (by omega)).trans hc_154
  have hc_168 : w_158 85 = .inl (cJ, 17, .inr (.inl (fun _ => lN 0))) := by rw [ew_159]; exact (va_up_ne _ _ (by omega)).trans hc_155
  have hc_169 : w_158 86 = .inl (cJ, 301, .inr (.inl (fun _ => lN 0))) := by rw [ew_159]; exact (va_up_ne _ _ (by omega)).trans hc_156
  have hc_170 : w_158 87 = .inl (cJ, 17, .inr (.inl (fun _ => lN 0))) := by rw [ew_159]; exact (va_up_ne _ _ (by omega)).trans hc_157
  have hfr : ∀ z, z ≠ 78 → z ≠ 77 → z ≠ 79 → z ≠ 80 → z ≠ 81 → z ≠ 82 → z ≠ 83 → z ≠ 84 → z ≠ 85 → z ≠ 86 → z ≠ 87 → w_158 z = w z := fun z hhfr0 hhfr1 hhfr2 hhfr3 hhfr4 hhfr5 hhfr6 hhfr7 hhfr8 hhfr9 hhfr10 => by rw [ew_159, va_up_ne _ _ hhfr1, ew_146, va_up_ne _ _ hhfr10, ew_134, va_up_ne _ _ hhfr1, ew_122, va_up_ne _ _ hhfr9, ew_111, va_up_ne _ _ hhfr1, ew_100, va_up_ne _ _ hhfr8, ew_90, va_up_ne _ _ hhfr1, ew_80, va_up_ne _ _ hhfr7, ew_71, va_up_ne _ _ hhfr1, ew_62, va_up_ne _ _ hhfr6, ew_54, va_up_ne _ _ hhfr1, ew_46, va_up_ne _ _ hhfr5, ew_39, va_up_ne _ _ hhfr1, ew_32, va_up_ne _ _ hhfr4, ew_26, va_up_ne _ _ hhfr1, ew_20, va_up_ne _ _ hhfr3, ew_15, va_up_ne _ _ hhfr1, ew_10, va_up_ne _ _ hhfr2, ew_6, va_up_ne _ _ hhfr1, ew_2, va_up_ne _ _ hhfr0]
  exact x_nret hx hb hr hlocks hw ⟨fun z hz => hfr z (by omega) (by omega) (by omega) (by omega) (by omega) (by omega) (by omega) (by omega) (by omega) (by omega) (by omega), ⟨_, hc_160⟩, ⟨_, _, hc_161, hc_162, fun _ _ => ⟨rfl, rfl⟩⟩, ⟨_, _, _, hc_163, hc_164, hc_165, fun i _ _ (q : (0 : Nat) = 1) => absurd q (by decide)⟩, ⟨_, hc_166, fun i k _ _ => by rw [tb_zero]⟩, ⟨_, _, hc_167, hc_168, fun q => absurd q (by decide)⟩, ⟨_, hc_169, fun q => absurd q (by decide)⟩, ⟨_, hc_170, fun k q => absurd q (by rw [tb_zero]; decide)⟩⟩ dX5_init_89
