abbrev wq_X6_ofTrack_B0 : List Cond := wq_X6_ofTrack_B
theorem gd_X6_ofTrack_B0 : wq_X6_ofTrack_B0.all goodWord = true := gd_X6_ofTrack_B
theorem c_X6_ofTrack_B0 (l : Launch) (D : va_G) (kA : Nat → ClassId) (z : Nat) (B : BS) (be k : Nat) (hbe : B.2 0 = be) (hI : BI B) (hk : k < 4) : mI l D (tyL kA) z yX6_ofTrack wq_X6_ofTrack_B0 ({ frames := 3, cells := 0, slots := 0, locals := 67 }) [.ref be, .int (nI k), .int (nI 0)] (wB kA B) (fun r w => w = (wB kA B) ∧ (r = nI (nn (B.1 k) 0))) := moI (c_X6_ofTrack_B l D kA z B be k 0 hbe hI hk (by decide)) (fun r u hu => hu)
abbrev wq_X6_ofTrack_B1 : List Cond := wq_X6_ofTrack_B
theorem gd_X6_ofTrack_B1 : wq_X6_ofTrack_B1.all goodWord = true := gd_X6_ofTrack_B
theorem c_X6_ofTrack_B1 (l : Launch) (D : va_G) (kA : Nat → ClassId) (z : Nat) (B : BS) (be k : Nat) (hbe : B.2 0 = be) (hI : BI B) (hk : k < 4) : mI l D (tyL kA) z yX6_ofTrack wq_X6_ofTrack_B1 ({ frames := 3, cells := 0, slots := 0, locals := 67 }) [.ref be, .int (nI k), .int (nI 1)] (wB kA B) (fun r w => w = (wB kA B) ∧ (r = nI (nn (B.1 k) 5))) := moI (c_X6_ofTrack_B l D kA z B be k 1 hbe hI hk (by decide)) (fun r u hu => hu)
abbrev wq_X6_ofTrack_B2 : List Cond := wq_X6_ofTrack_B
theorem gd_X6_ofTrack_B2 : wq_X6_ofTrack_B2.all goodWord = true := gd_X6_ofTrack_B
theorem c_X6_ofTrack_B2 (l : Launch) (D : va_G) (kA : Nat → ClassId) (z : Nat) (B : BS) (be k : Nat) (hbe : B.2 0 = be) (hI : BI B) (hk : k < 4) : mI l D (tyL kA) z yX6_ofTrack wq_X6_ofTrack_B2 ({ frames := 3, cells := 0, slots := 0, locals := 67 }) [.ref be, .int (nI k), .int (nI 2)] (wB kA B) (fun r w => w = (wB kA B) ∧ (r = nI (nn (B.1 k) 1))) := moI (c_X6_ofTrack_B l D kA z B be k 2 hbe hI hk (by decide)) (fun r u hu => hu)
abbrev wq_X6_ofTrack_B3 : List Cond := wq_X6_ofTrack_B
theorem gd_X6_ofTrack_B3 : wq_X6_ofTrack_B3.all goodWord = true := gd_X6_ofTrack_B
theorem c_X6_ofTrack_B3 (l : Launch) (D : va_G) (kA : Nat → ClassId) (z : Nat) (B : BS) (be k : Nat) (hbe : B.2 0 = be) (hI : BI B) (hk : k < 4) : mI l D (tyL kA) z yX6_ofTrack wq_X6_ofTrack_B3 ({ frames := 3, cells := 0, slots := 0, locals := 67 }) [.ref be, .int (nI k), .int (nI 3)] (wB kA B) (fun r w => w = (wB kA B) ∧ (r = nI (nn (B.1 k) 6))) := moI (c_X6_ofTrack_B l D kA z B be k 3 hbe hI hk (by decide)) (fun r u hu => hu)
abbrev wq_X6_ofTrack_B4 : List Cond := wq_X6_ofTrack_B
theorem gd_X6_ofTrack_B4 : wq_X6_ofTrack_B4.all goodWord = true := gd_X6_ofTrack_B
theorem c_X6_ofTrack_B4 (l : Launch) (D : va_G) (kA : Nat → ClassId) (z : Nat) (B : BS) (be k : Nat) (hbe : B.2 0 = be) (hI : BI B) (hk : k < 4) : mI l D (tyL kA) z yX6_ofTrack wq_X6_ofTrack_B4 ({ frames := 3, cells := 0, slots := 0, locals := 67 }) [.ref be, .int (nI k), .int (nI 4)] (wB kA B) (fun r w => w = (wB kA B) ∧ (r = nI (nn (B.1 k) 2))) := moI (c_X6_ofTrack_B l D kA z B be k 4 hbe hI hk (by decide)) (fun r u hu => hu)
abbrev wq_X6_ofTrack_B5 : List Cond := wq_X6_ofTrack_B
theorem gd_X6_ofTrack_B5 : wq_X6_ofTrack_B5.all goodWord = true := gd_X6_ofTrack_B
theorem c_X6_ofTrack_B5 (l : Launch) (D : va_G) (kA : Nat → ClassId) (z : Nat) (B : BS) (be k : Nat) (hbe : B.2 0 = be) (hI : BI B) (hk : k < 4) : mI l D (tyL kA) z yX6_ofTrack wq_X6_ofTrack_B5 ({ frames := 3, cells := 0, slots := 0, locals := 67 }) [.ref be, .int (nI k), .int (nI 5)] (wB kA B) (fun r w => w = (wB kA B) ∧ (r = nI (nsS (B.1 k)))) := moI (c_X6_ofTrack_B l D kA z B be k 5 hbe hI hk (by decide)) (fun r u hu => hu)
abbrev wq_X6_ofTrack_B6 : List Cond := wq_X6_ofTrack_B
theorem gd_X6_ofTrack_B6 : wq_X6_ofTrack_B6.all goodWord = true := gd_X6_ofTrack_B
theorem c_X6_ofTrack_B6 (l : Launch) (D : va_G) (kA : Nat → ClassId) (z : Nat) (B : BS) (be k : Nat) (hbe : B.2 0 = be) (hI : BI B) (hk : k < 4) : mI l D (tyL kA) z yX6_ofTrack wq_X6_ofTrack_B6 ({ frames := 3, cells := 0, slots := 0, locals := 67 }) [.ref be, .int (nI k), .int (nI 6)] (wB kA B) (fun r w => w = (wB kA B) ∧ (r = nI (ngS (B.1 k)))) := moI (c_X6_ofTrack_B l D kA z B be k 6 hbe hI hk (by decide)) (fun r u hu => hu)
abbrev wq_X6_ofTrack_B7 : List Cond := wq_X6_ofTrack_B
theorem gd_X6_ofTrack_B7 : wq_X6_ofTrack_B7.all goodWord = true := gd_X6_ofTrack_B
theorem c_X6_ofTrack_B7 (l : Launch) (D : va_G) (kA : Nat → ClassId) (z : Nat) (B : BS) (be k : Nat) (hbe : B.2 0 = be) (hI : BI B) (hk : k < 4) : mI l D (tyL kA) z yX6_ofTrack wq_X6_ofTrack_B7 ({ frames := 3, cells := 0, slots := 0, locals := 67 }) [.ref be, .int (nI k), .int (nI 7)] (wB kA B) (fun r w => w = (wB kA B) ∧ (r = nI (stS (B.1 k)))) := moI (c_X6_ofTrack_B l D kA z B be k 7 hbe hI hk (by decide)) (fun r u hu => hu)
abbrev wq_X6_ofTrack_B8 : List Cond := wq_X6_ofTrack_B
theorem gd_X6_ofTrack_B8 : wq_X6_ofTrack_B8.all goodWord = true := gd_X6_ofTrack_B
theorem c_X6_ofTrack_B8 (l : Launch) (D : va_G) (kA : Nat → ClassId) (z : Nat) (B : BS) (be k : Nat) (hbe : B.2 0 = be) (hI : BI B) (hk : k < 4) : mI l D (tyL kA) z yX6_ofTrack wq_X6_ofTrack_B8 ({ frames := 3, cells := 0, slots := 0, locals := 67 }) [.ref be, .int (nI k), .int (nI 8)] (wB kA B) (fun r w => w = (wB kA B) ∧ (r = nI (cuS (B.1 k)))) := moI (c_X6_ofTrack_B l D kA z B be k 8 hbe hI hk (by decide)) (fun r u hu => hu)
abbrev wq_X6_ofTrack_B9 : List Cond := wq_X6_ofTrack_B
theorem gd_X6_ofTrack_B9 : wq_X6_ofTrack_B9.all goodWord = true := gd_X6_ofTrack_B
theorem c_X6_ofTrack_B9 (l : Launch) (D : va_G) (kA : Nat → ClassId) (z : Nat) (B : BS) (be k : Nat) (hbe : B.2 0 = be) (hI : BI B) (hk : k < 4) : mI l D (tyL kA) z yX6_ofTrack wq_X6_ofTrack_B9 ({ frames := 3, cells := 0, slots := 0, locals := 67 }) [.ref be, .int (nI k), .int (nI 9)] (wB kA B) (fun r w => w = (wB kA B) ∧ (r = nI (gdS (B.1 k)))) := moI (c_X6_ofTrack_B l D kA z B be k 9 hbe hI hk (by decide)) (fun r u hu => hu)
abbrev wq_X6_ofTrack_B10 : List Cond := wq_X6_ofTrack_B
theorem gd_X6_ofTrack_B10 : wq_X6_ofTrack_B10.all goodWord = true := gd_X6_ofTrack_B
theorem c_X6_ofTrack_B10 (l : Launch) (D : va_G) (kA : Nat → ClassId) (z : Nat) (B : BS) (be k : Nat) (hbe : B.2 0 = be) (hI : BI B) (hk : k < 4) : mI l D (tyL kA) z yX6_ofTrack wq_X6_ofTrack_B10 ({ frames := 3, cells := 0, slots := 0, locals := 67 }) [.ref be, .int (nI k), .int (nI 10)] (wB kA B) (fun r w => w = (wB kA B) ∧ (r = nI (nn (B.1 k) 3))) := moI (c_X6_ofTrack_B l D kA z B be k 10 hbe hI hk (by decide)) (fun r u hu => hu)
abbrev wq_X6_ofTrack_B11 : List Cond := wq_X6_ofTrack_B
theorem gd_X6_ofTrack_B11 : wq_X6_ofTrack_B11.all goodWord = true := gd_X6_ofTrack_B
theorem c_X6_ofTrack_B11 (l : Launch) (D : va_G) (kA : Nat → ClassId) (z : Nat) (B : BS) (be k : Nat) (hbe : B.2 0 = be) (hI : BI B) (hk : k < 4) : mI l D (tyL kA) z yX6_ofTrack wq_X6_ofTrack_B11 ({ frames := 3, cells := 0, slots := 0, locals := 67 }) [.ref be, .int (nI k), .int (nI 11)] (wB kA B) (fun r w => w = (wB kA B) ∧ (r = sumW (rw' (B.1 k) 1) (nn (B.1 k) 5))) := moI (c_X6_ofTrack_B l D kA z B be k 11 hbe hI hk (by decide)) (fun r u hu => hu)
abbrev wq_X6_many_B1 : List Cond := wq_X6_many_B
theorem gd_X6_many_B1 : wq_X6_many_B1.all goodWord = true := gd_X6_many_B
theorem c_X6_many_B1 (l : Launch) (D : va_G) (kA : Nat → ClassId) (z : Nat) (B : BS) (be : Nat) (hbe : B.2 0 = be) (hI : BI B) : mI l D (tyL kA) z yX6_many wq_X6_many_B1 ({ frames := 5, cells := 0, slots := 0, locals := 110 }) [.ref be, .int (nI 1)] (wB kA B) (fun r w => w = (wB kA B) ∧ (r = nI (B.2 2))) := moI (c_X6_many_B l D kA z B be 1 hbe hI (by decide)) (fun r u hu => hu)
abbrev wq_X6_many_B2 : List Cond := wq_X6_many_B
theorem gd_X6_many_B2 : wq_X6_many_B2.all goodWord = true := gd_X6_many_B
theorem c_X6_many_B2 (l : Launch) (D : va_G) (kA : Nat → ClassId) (z : Nat) (B : BS) (be : Nat) (hbe : B.2 0 = be) (hI : BI B) : mI l D (tyL kA) z yX6_many wq_X6_many_B2 ({ frames := 5, cells := 0, slots := 0, locals := 110 }) [.ref be, .int (nI 2)] (wB kA B) (fun r w => w = (wB kA B) ∧ (r = nI (B.2 3))) := moI (c_X6_many_B l D kA z B be 2 hbe hI (by decide)) (fun r u hu => hu)
abbrev wq_X6_many_B3 : List Cond := wq_X6_many_B
theorem gd_X6_many_B3 : wq_X6_many_B3.all goodWord = true := gd_X6_many_B
theorem c_X6_many_B3 (l : Launch) (D : va_G) (kA : Nat → ClassId) (z : Nat) (B : BS) (be : Nat) (hbe : B.2 0 = be) (hI : BI B) : mI l D (tyL kA) z yX6_many wq_X6_many_B3 ({ frames := 5, cells := 0, slots := 0, locals := 110 }) [.ref be, .int (nI 3)] (wB kA B) (fun r w => w = (wB kA B) ∧ (r = nI (B.2 4))) := moI (c_X6_many_B l D kA z B be 3 hbe hI (by decide)) (fun r u hu => hu)
abbrev wq_X6_many_B4 : List Cond := wq_X6_many_B
theorem gd_X6_many_B4 : wq_X6_many_B4.all goodWord = true := gd_X6_many_B
theorem c_X6_many_B4 (l : Launch) (D : va_G) (kA : Nat → ClassId) (z : Nat) (B : BS) (be : Nat) (hbe : B.2 0 = be) (hI : BI B) : mI l D (tyL kA) z yX6_many wq_X6_many_B4 ({ frames := 5, cells := 0, slots := 0, locals := 110 }) [.ref be, .int (nI 4)] (wB kA B) (fun r w => w = (wB kA B) ∧ (r = nI (shB B))) := moI (c_X6_many_B l D kA z B be 4 hbe hI (by decide)) (fun r u hu => hu)
abbrev wq_X6_many_B5 : List Cond := wq_X6_many_B
theorem gd_X6_many_B5 : wq_X6_many_B5.all goodWord = true := gd_X6_many_B
theorem c_X6_many_B5 (l : Launch) (D : va_G) (kA : Nat → ClassId) (z : Nat) (B : BS) (be : Nat) (hbe : B.2 0 = be) (hI : BI B) : mI l D (tyL kA) z yX6_many wq_X6_many_B5 ({ frames := 5, cells := 0, slots := 0, locals := 110 }) [.ref be, .int (nI 5)] (wB kA B) (fun r w => w = (wB kA B) ∧ (r = nI (B.2 5))) := moI (c_X6_many_B l D kA z B be 5 hbe hI (by decide)) (fun r u hu => hu)
abbrev wq_X6_many_B6 : List Cond := wq_X6_many_B
theorem gd_X6_many_B6 : wq_X6_many_B6.all goodWord = true := gd_X6_many_B
theorem c_X6_many_B6 (l : Launch) (D : va_G) (kA : Nat → ClassId) (z : Nat) (B : BS) (be : Nat) (hbe : B.2 0 = be) (hI : BI B) : mI l D (tyL kA) z yX6_many wq_X6_many_B6 ({ frames := 5, cells := 0, slots := 0, locals := 110 }) [.ref be, .int (nI 6)] (wB kA B) (fun r w => w = (wB kA B) ∧ (r = nI (B.2 6))) := moI (c_X6_many_B l D kA z B be 6 hbe hI (by decide)) (fun r u hu => hu)
abbrev wq_X6_ofCell_B0 : List Cond := wq_X6_ofCell_B
theorem gd_X6_ofCell_B0 : wq_X6_ofCell_B0.all goodWord = true := gd_X6_ofCell_B
theorem c_X6_ofCell_B0 (l : Launch) (D : va_G) (kA : Nat → ClassId) (z : Nat) (B : BS) (be k : Nat) (i : Nat) (hbe : B.2 0 = be) (hI : BI B) (hk : k < 4) (hi : i < nn (B.1 k) 5) : mI l D (tyL kA) z yX6_ofCell wq_X6_ofCell_B0 ({ frames := 3, cells := 0, slots := 0, locals := 65 }) [.ref be, .int (nI k), .int (nI i), .int (nI 0)] (wB kA B) (fun r w => w = (wB kA B) ∧ (r = rw' (B.1 k) 0 i)) := moI (c_X6_ofCell_B l D kA z B be k i 0 hbe hI hk hi (by decide)) (fun r u hu => hu)
abbrev wq_X6_ofCell_B1 : List Cond := wq_X6_ofCell_B
theorem gd_X6_ofCell_B1 : wq_X6_ofCell_B1.all goodWord = true := gd_X6_ofCell_B
theorem c_X6_ofCell_B1 (l : Launch) (D : va_G) (kA : Nat → ClassId) (z : Nat) (B : BS) (be k : Nat) (i : Nat) (hbe : B.2 0 = be) (hI : BI B) (hk : k < 4) (hi : i < nn (B.1 k) 5) : mI l D (tyL kA) z yX6_ofCell wq_X6_ofCell_B1 ({ frames := 3, cells := 0, slots := 0, locals := 65 }) [.ref be, .int (nI k), .int (nI i), .int (nI 1)] (wB kA B) (fun r w => w = (wB kA B) ∧ (r = rw' (B.1 k) 1 i)) := moI (c_X6_ofCell_B l D kA z B be k i 1 hbe hI hk hi (by decide)) (fun r u hu => hu)
abbrev wq_X6_ofCell_B2 : List Cond := wq_X6_ofCell_B
theorem gd_X6_ofCell_B2 : wq_X6_ofCell_B2.all goodWord = true := gd_X6_ofCell_B
theorem c_X6_ofCell_B2 (l : Launch) (D : va_G) (kA : Nat → ClassId) (z : Nat) (B : BS) (be k : Nat) (i : Nat) (hbe : B.2 0 = be) (hI : BI B) (hk : k < 4) (hi : i < nn (B.1 k) 5) : mI l D (tyL kA) z yX6_ofCell wq_X6_ofCell_B2 ({ frames := 3, cells := 0, slots := 0, locals := 65 }) [.ref be, .int (nI k), .int (nI i), .int (nI 2)] (wB kA B) (fun r w => w = (wB kA B) ∧ (r = nI (if rw' (B.1 k) 2 i = nI 0 then 0 else 1))) := moI (c_X6_ofCell_B l D kA z B be k i 2 hbe hI hk hi (by decide)) (fun r u hu => hu)
abbrev wq_X6_ofCell_B3 : List Cond := wq_X6_ofCell_B
theorem gd_X6_ofCell_B3 : wq_X6_ofCell_B3.all goodWord = true := gd_X6_ofCell_B
theorem c_X6_ofCell_B3 (l : Launch) (D : va_G) (kA : Nat → ClassId) (z : Nat) (B : BS) (be k : Nat) (i : Nat) (hbe : B.2 0 = be) (hI : BI B) (hk : k < 4) (hi : i < nn (B.1 k) 5) : mI l D (tyL kA) z yX6_ofCell wq_X6_ofCell_B3 ({ frames := 3, cells := 0, slots := 0, locals := 65 }) [.ref be, .int (nI k), .int (nI i), .int (nI 3)] (wB kA B) (fun r w => w = (wB kA B) ∧ (r = nI (dT (rw' (B.1 k) 3 i)))) := moI (c_X6_ofCell_B l D kA z B be k i 3 hbe hI hk hi (by decide)) (fun r u hu => hu)