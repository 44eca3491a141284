def J_law_340 (xs : Nat → Int32) (L : Nat) (rec18 : Int32 → (Nat → Int32) → (Nat → Int32) → Int32 → Int32 → (Nat → Int32) → (Nat → Int32) → (Nat → Int32) → (Nat → Int32) → Int32 → (Nat → Int32) → (Nat → Int32) → (Nat → Int64) → (Nat → Int64) → Nat → Nat → Int32 → Int32 → (Nat → Int32) → (Nat → Int32) → (Nat → Int32) → (Nat → Int32) → (Nat → Int32) → Int32 → (Nat → Int64) → (Nat → Int32) → (Nat → Int64) → (Nat → Int32) → Option (Int32)) (x3 : Int32) (y0 : Int32) (y1 : Int32) (y3 : Int32) (lab : Nat → Int32) (sg : Nat → Int32) (cc : Int32) (ci : Int32) (od : Nat → Int32) (sd : Nat → Int32) (go : Nat → Int32) (ta : Nat → Int32) (we : Int32) (oe : Nat → Int32) (fp : Nat → Int32) (ro : Nat → Int64) (sp : Nat → Int64) (qr : Nat) (qs : Nat) (mn : Int32) (mc : Int32) (ms : Nat → Int32) (ml : Nat → Int32) (mm : Nat → Int32) (mt : Nat → Int32) (mo : Nat → Int32) (mk : Int32) (mr : Nat → Int64) (my : Nat → Int32) (mb : Nat → Int64) (mf : Nat → Int32) : Option Int32 :=
  (Option.bind (F_M_span y1 y0 mn mc ms ml mm mt mk mr my mb) (fun v_1 => (if y3 = v_1.1 then rec18 (x3 + 6) lab sg cc ci od sd go ta we oe fp ro sp qr qs mn mc ms ml v_1.2.1 v_1.2.2.1 mo v_1.2.2.2.1 v_1.2.2.2.2.1 v_1.2.2.2.2.2.1 v_1.2.2.2.2.2.2 mf else some (0 : Int32))))
def J_law_327 (xs : Nat → Int32) (L : Nat) (rec18 : Int32 → (Nat → Int32) → (Nat → Int32) → Int32 → Int32 → (Nat → Int32) → (Nat → Int32) → (Nat → Int32) → (Nat → Int32) → Int32 → (Nat → Int32) → (Nat → Int32) → (Nat → Int64) → (Nat → Int64) → Nat → Nat → Int32 → Int32 → (Nat → Int32) → (Nat → Int32) → (Nat → Int32) → (Nat → Int32) → (Nat → Int32) → Int32 → (Nat → Int64) → (Nat → Int32) → (Nat → Int64) → (Nat → Int32) → Option (Int32)) (x3 : Int32) (y0 : Int32) (y2 : Int32) (lab : Nat → Int32) (sg : Nat → Int32) (cc : Int32) (ci : Int32) (od : Nat → Int32) (sd : Nat → Int32) (go : Nat → Int32) (ta : Nat → Int32) (we : Int32) (oe : Nat → Int32) (fp : Nat → Int32) (ro : Nat → Int64) (sp : Nat → Int64) (qr : Nat) (qs : Nat) (mn : Int32) (mc : Int32) (ms : Nat → Int32) (ml : Nat → Int32) (mm : Nat → Int32) (mt : Nat → Int32) (mo : Nat → Int32) (mk : Int32) (mr : Nat → Int64) (my : Nat → Int32) (mb : Nat → Int64) (mf : Nat → Int32) : Option Int32 :=
  (if inb (x3 + (2 : Int32)) L then (if (xs (x3 + (2 : Int32)).toNatClampNeg) = 0 then J_law_340 xs L rec18 x3 (0 : Int32) y0 y2 lab sg cc ci od sd go ta we oe fp ro sp qr qs mn mc ms ml mm mt mo mk mr my mb mf else J_law_340 xs L rec18 x3 (1 : Int32) y0 y2 lab sg cc ci od sd go ta we oe fp ro sp qr qs mn mc ms ml mm mt mo mk mr my mb mf) else none)
def J_law_310 (xs : Nat → Int32) (L : Nat) (rec18 : Int32 → (Nat → Int32) → (Nat → Int32) → Int32 → Int32 → (Nat → Int32) → (Nat → Int32) → (Nat → Int32) → (Nat → Int32) → Int32 → (Nat → Int32) → (Nat → Int32) → (Nat → Int64) → (Nat → Int64) → Nat → Nat → Int32 → Int32 → (Nat → Int32) → (Nat → Int32) → (Nat → Int32) → (Nat → Int32) → (Nat → Int32) → Int32 → (Nat → Int64) → (Nat → Int32) → (Nat → Int64) → (Nat → Int32) → Option (Int32)) (x3 : Int32) (y0 : Int32) (y1 : Int32) (lab : Nat → Int32) (sg : Nat → Int32) (cc : Int32) (ci : Int32) (od : Nat → Int32) (sd : Nat → Int32) (go : Nat → Int32) (ta : Nat → Int32) (we : Int32) (oe : Nat → Int32) (fp : Nat → Int32) (ro : Nat → Int64) (sp : Nat → Int64) (qr : Nat) (qs : Nat) (mn : Int32) (mc : Int32) (ms : Nat → Int32) (ml : Nat → Int32) (mm : Nat → Int32) (mt : Nat → Int32) (mo : Nat → Int32) (mk : Int32) (mr : Nat → Int64) (my : Nat → Int32) (mb : Nat → Int64) (mf : Nat → Int32) : Option Int32 :=
  (Option.bind (F_B_span y1 y0 lab sg cc ci od sd ta we oe fp ro sp qr qs) (fun v_1 => (if inb (x3 + (1 : Int32)) L then (if (xs (x3 + (1 : Int32)).toNatClampNeg) = 0 then J_law_327 xs L rec18 x3 (0 : Int32) v_1.1 lab sg cc ci od v_1.2.1 go v_1.2.2.1 v_1.2.2.2.1 v_1.2.2.2.2.1 v_1.2.2.2.2.2.1 v_1.2.2.2.2.2.2.1 v_1.2.2.2.2.2.2.2.1 v_1.2.2.2.2.2.2.2.2.1 v_1.2.2.2.2.2.2.2.2.2 mn mc ms ml mm mt mo mk mr my mb mf else J_law_327 xs L rec18 x3 (1 : Int32) v_1.1 lab sg cc ci od v_1.2.1 go v_1.2.2.1 v_1.2.2.2.1 v_1.2.2.2.2.1 v_1.2.2.2.2.2.1 v_1.2.2.2.2.2.2.1 v_1.2.2.2.2.2.2.2.1 v_1.2.2.2.2.2.2.2.2.1 v_1.2.2.2.2.2.2.2.2.2 mn mc ms ml mm mt mo mk mr my mb mf) else none)))
def J_law_297 (xs : Nat → Int32) (L : Nat) (rec18 : Int32 → (Nat → Int32) → (Nat → Int32) → Int32 → Int32 → (Nat → Int32) → (Nat → Int32) → (Nat → Int32) → (Nat → Int32) → Int32 → (Nat → Int32) → (Nat → Int32) → (Nat → Int64) → (Nat → Int64) → Nat → Nat → Int32 → Int32 → (Nat → Int32) → (Nat → Int32) → (Nat → Int32) → (Nat → Int32) → (Nat → Int32) → Int32 → (Nat → Int64) → (Nat → Int32) → (Nat → Int64) → (Nat → Int32) → Option (Int32)) (x3 : Int32) (y0 : Int32) (lab : Nat → Int32) (sg : Nat → Int32) (cc : Int32) (ci : Int32) (od : Nat → Int32) (sd : Nat → Int32) (go : Nat → Int32) (ta : Nat → Int32) (we : Int32) (oe : Nat → Int32) (fp : Nat → Int32) (ro : Nat → Int64) (sp : Nat → Int64) (qr : Nat) (qs : Nat) (mn : Int32) (mc : Int32) (ms : Nat → Int32) (ml : Nat → Int32) (mm : Nat → Int32) (mt : Nat → Int32) (mo : Nat → Int32) (mk : Int32) (mr : Nat → Int64) (my : Nat → Int32) (mb : Nat → Int64) (mf : Nat → Int32) : Option Int32 :=
  (if inb (x3 + (2 : Int32)) L then (if (xs (x3 + (2 : Int32)).toNatClampNeg) = 0 then J_law_310 xs L rec18 x3 (0 : Int32) y0 lab sg cc ci od sd go ta we oe fp ro sp qr qs mn mc ms ml mm mt mo mk mr my mb mf else J_law_310 xs L rec18 x3 (1 : Int32) y0 lab sg cc ci od sd go ta we oe fp ro sp qr qs mn mc ms ml mm mt mo mk mr my mb mf) else none)
def J_law_445 (xs : Nat → Int32) (L : Nat) (rec18 : Int32 → (Nat → Int32) → (Nat → Int32) → Int32 → Int32 → (Nat → Int32) → (Nat → Int32) → (Nat → Int32) → (Nat → Int32) → Int32 → (Nat → Int32) → (Nat → Int32) → (Nat → Int64) → (Nat → Int64) → Nat → Nat → Int32 → Int32 → (Nat → Int32) → (Nat → Int32) → (Nat → Int32) → (Nat → Int32) → (Nat → Int32) → Int32 → (Nat → Int64) → (Nat → Int32) → (Nat → Int64) → (Nat → Int32) → Option (Int32)) (x3 : Int32) (y0 : Int32) (y1 : Int32) (y3 : Int32) (lab : Nat → Int32) (sg : Nat → Int32) (cc : Int32) (ci : Int32) (od : Nat → Int32) (sd : Nat → Int32) (go : Nat → Int32) (ta : Nat → Int32) (we : Int32) (oe : Nat → Int32) (fp : Nat → Int32) (ro : Nat → Int64) (sp : Nat → Int64) (qr : Nat) (qs : Nat) (mn : Int32) (mc : Int32) (ms : Nat → Int32) (ml : Nat → Int32) (mm : Nat → Int32) (mt : Nat → Int32) (mo : Nat → Int32) (mk : Int32) (mr : Nat → Int64) (my : Nat → Int32) (mb : Nat → Int64) (mf : Nat → Int32) : Option Int32 :=
  (Option.bind (F_M_resolve y1 y0 mn mc ms ml mk mf) (fun v_1 => (if y3 = v_1.1 then rec18 (x3 + 6) lab sg cc ci od sd go ta we oe fp ro sp qr qs v_1.2.1 v_1.2.2.1 v_1.2.2.2.1 v_1.2.2.2.2.1 mm mt mo v_1.2.2.2.2.2.1 mr my mb v_1.2.2.2.2.2.2 else some (0 : Int32))))
def J_law_423 (xs : Nat → Int32) (L : Nat) (rec18 : Int32 → (Nat → Int32) → (Nat → Int32) → Int32 → Int32 → (Nat → Int32) → (Nat → Int32) → (Nat → Int32) → (Nat → Int32) → Int32 → (Nat → Int32) → (Nat → Int32) → (Nat → Int64) → (Nat → Int64) → Nat → Nat → Int32 → Int32 → (Nat → Int32) → (Nat → Int32) → (Nat → Int32) → (Nat → Int32) → (Nat → Int32) → Int32 → (Nat → Int64) → (Nat → Int32) → (Nat → Int64) → (Nat → Int32) → Option (Int32)) (x3 : Int32) (y0 : Int32) (y1 : Int32) (lab : Nat → Int32) (sg : Nat → Int32) (cc : Int32) (ci : Int32) (od : Nat → Int32) (sd : Nat → Int32) (go : Nat → Int32) (ta : Nat → Int32) (we : Int32) (oe : Nat → Int32) (fp : Nat → Int32) (ro : Nat → Int64) (sp : Nat → Int64) (qr : Nat) (qs : Nat) (mn : Int32) (mc : Int32) (ms : Nat → Int32) (ml : Nat → Int32) (mm : Nat → Int32) (mt : Nat → Int32) (mo : Nat → Int32) (mk : Int32) (mr : Nat → Int64) (my : Nat → Int32) (mb : Nat → Int64) (mf : Nat → Int32) : Option Int32 :=
  (Option.bind (F_B_resolve y1 y0 lab sg cc ci od sd we) (fun v_1 => (if inb (x3 + (1 : Int32)) L then (if inb (x3 + (2 : Int32)) L then (if (xs (x3 + (2 : Int32)).toNatClampNeg) = 0 then J_law_445 xs L rec18 x3 (0 : Int32) (xs (x3 + (1 : Int32)).toNatClampNeg) v_1.1 v_1.2.1 v_1.2.2.1 v_1.2.2.2.1 v_1.2.2.2.2.1 v_1.2.2.2.2.2.1 v_1.2.2.2.2.2.2.1 go ta v_1.2.2.2.2.2.2.2 oe fp ro sp qr qs mn mc ms ml mm mt mo mk mr my mb mf else J_law_445 xs L rec18 x3 (1 : Int32) (xs (x3 + (1 : Int32)).toNatClampNeg) v_1.1 v_1.2.1 v_1.2.2.1 v_1.2.2.2.1 v_1.2.2.2.2.1 v_1.2.2.2.2.2.1 v_1.2.2.2.2.2.2.1 go ta v_1.2.2.2.2.2.2.2 oe fp ro sp qr qs mn mc ms ml mm mt mo mk mr my mb mf) else none) else none)))
def J_law_18 (xs : Nat → Int32) (L : Nat) (rec18 : Int32 → (Nat → Int32) → (Nat → Int32) → Int32 → Int32 → (Nat → Int32) → (Nat → Int32) → (Nat → Int32) → (Nat → Int32) → Int32 → (Nat → Int32) → (Nat → Int32) → (Nat → Int64) → (Nat → Int64) → Nat → Nat → Int32 → Int32 → (Nat → Int32) → (Nat → Int32) → (Nat → Int32) → (Nat → Int32) → (Nat → Int32) → Int32 → (Nat → Int64) → (Nat → Int32) → (Nat → Int64) → (Nat → Int32) → Option (Int32)) (x3 : Int32) (lab : Nat → Int32) (sg : Nat → Int32) (cc : Int32) (ci : Int32) (od : Nat → Int32) (sd : Nat → Int32) (go : Nat → Int32) (ta : Nat → Int32) (we : Int32) (oe : Nat → Int32) (fp : Nat → Int32) (ro : Nat → Int64) (sp : Nat → Int64) (qr : Nat) (qs : Nat) (mn : Int32) (mc : Int32) (ms : Nat → Int32) (ml : Nat → Int32) (mm : Nat → Int32) (mt : Nat → Int32) (mo : Nat → Int32) (mk : Int32) (mr : Nat → Int64) (my : Nat → Int32) (mb : Nat → Int64) (mf : Nat → Int32) : Option Int32 :=
  (if ((Int32.ofNat L) - (6 : Int32)) < x3 then some (1 : Int32) else (if inb x3 L then (if ((xs x3.toNatClampNeg) &&& (15 : Int32)) = 0 then (if inb (x3 + (1 : Int32)) L then (if inb (x3 + (2 : Int32)) L then (if inb (x3 + (3 : Int32)) L then (if inb (x3 + (4 : Int32)) L then (if inb (x3 + (5 : Int32)) L then (Option.bind (F_B_crossing (xs (x3 + (1 : Int32)).toNatClampNeg) (xs (x3 + (2 : Int32)).toNatClampNeg) (xs (x3 + (3 : Int32)).toNatClampNeg) (xs (x3 + (4 : Int32)).toNatClampNeg) (xs (x3 + (5 : Int32)).toNatClampNeg) lab sg cc od we) (fun v_9 => (if inb (x3 + (1 : Int32)) L then (if inb (x3 + (2 : Int32)) L then (if inb (x3 + (3 : Int32)) L then (if inb (x3 + (4 : Int32)) L then (if inb (x3 + (5 : Int32)) L then (Option.bind (F_M_crossing (xs (x3 + (1 : Int32)).toNatClampNeg) (xs (x3 + (2 : Int32)).toNatClampNeg) (xs (x3 + (3 : Int32)).toNatClampNeg) (xs (x3 + (4 : Int32)).toNatClampNeg) (xs (x3 + (5 : Int32)).toNatClampNeg) mn ms ml mk) (fun v_15 => (if v_9.1 = v_15.1 then rec18 (x3 + 6) v_9.2.1 v_9.2.2.1 v_9.2.2.2.1 ci v_9.2.2.2.2.1 sd go ta v_9.2.2.2.2.2 oe fp ro sp qr qs v_15.2.1 mc v_15.2.2.1 v_15.2.2.2.1 mm mt mo v_15.2.2.2.2 mr my mb mf else some (0 : Int32)))) else none) else none) else none) else none) else none))) else none) else none) else none) else none) else none) else (if ((xs x3.toNatClampNeg) &&& (15 : Int32)) = 1 then (if inb (x3 + (1 : Int32)) L then (Option.bind (F_B_circles (xs (x3 + (1 : Int32)).toNatClampNeg) ci we) (fun v_19 => (if inb (x3 + (1 : Int32)) L then (Option.bind (F_M_circles (xs (x3 + (1 : Int32)).toNatClampNeg) mc mk) (fun v_21 => (if v_19.1 = v_21.1 then rec18 (x3 + 6) lab sg cc v_19.2.1 od sd go ta v_19.2.2 oe fp ro sp qr qs mn v_21.2.1 ms ml mm mt mo v_21.2.2 mr my mb mf else some (0 : Int32)))) else none))) else none) else (if ((xs x3.toNatClampNeg) &&& (15 : Int32)) = 2 then (Option.bind (F_B_clear cc ci od we) (fun v_24 => (Option.bind (F_M_clear mn mc mk) (fun v_25 => (if v_24.1 = v_25.1 then rec18 (x3 + 6) lab sg v_24.2.1 v_24.2.2.1 v_24.2.2.2.1 sd go ta v_24.2.2.2.2 oe fp ro sp qr qs v_25.2.1 v_25.2.2.1 ms ml mm mt mo v_25.2.2.2 mr my mb mf else some (0 : Int32)))))) else (if ((xs x3.toNatClampNeg) &&& (15 : Int32)) = 3 then (Option.bind (F_B_fault lab cc sd) (fun v_28 => (Option.bind (F_M_fault mn ml) (fun v_29 => (if v_28.1 = v_29 then rec18 (x3 + 6) lab sg cc ci od v_28.2 go ta we oe fp ro sp qr qs mn mc ms ml mm mt mo mk mr my mb mf else some (0 : Int32)))))) else (if ((xs x3.toNatClampNeg) &&& (15 : Int32)) = 4 then (if inb (x3 + (1 : Int32)) L then (Option.bind (F_B_sweep (xs (x3 + (1 : Int32)).toNatClampNeg) lab cc od sd go we) (fun v_33 => (if inb (x3 + (1 : Int32)) L then (Option.bind (F_M_sweep (xs (x3 + (1 : Int32)).toNatClampNeg) mn ml mm mo) (fun v_35 => (if v_33.1 = v_35.1 then rec18 (x3 + 6) lab sg cc ci v_33.2.1 v_33.2.2.1 v_33.2.2.2.1 ta v_33.2.2.2.2 oe fp ro sp qr qs mn mc ms ml v_35.2.1 mt v_35.2.2 mk mr my mb mf else some (0 : Int32)))) else none))) else none) else (if ((xs x3.toNatClampNeg) &&& (15 : Int32)) = 5 then (if inb (x3 + (1 : Int32)) L then (Option.bind (F_B_bracket (xs (x3 + (1 : Int32)).toNatClampNeg) lab cc ci od sd ta we oe fp ro sp qr qs) (fun v_39 => (if inb (x3 + (1 : Int32)) L then (Option.bind (F_M_bracket (xs (x3 + (1 : Int32)).toNatClampNeg) mn mc ml mm mt mk mr my mb) (fun v_41 => (if (lg_cmp v_39.1 v_41.1) = 0 then rec18 (x3 + 6) lab sg cc ci od v_39.2.1 go v_39.2.2.1 v_39.2.2.2.1 v_39.2.2.2.2.1 v_39.2.2.2.2.2.1 v_39.2.2.2.2.2.2.1 v_39.2.2.2.2.2.2.2.1 v_39.2.2.2.2.2.2.2.2.1 v_39.2.2.2.2.2.2.2.2.2 mn mc ms ml v_41.2.1 v_41.2.2.1 mo v_41.2.2.2.1 v_41.2.2.2.2.1 v_41.2.2.2.2.2.1 v_41.2.2.2.2.2.2 mf else some (0 : Int32)))) else none))) else none) else (if ((xs x3.toNatClampNeg) &&& (15 : Int32)) = 6 then (if inb (x3 + (1 : Int32)) L then (Option.bind (F_B_jones (xs (x3 + (1 : Int32)).toNatClampNeg) lab sg cc ci od sd ta we oe fp ro sp qr qs) (fun v_45 => (if inb (x3 + (1 : Int32)) L then (Option.bind (F_M_jones (xs (x3 + (1 : Int32)).toNatClampNeg) mn mc ms ml mm mt mk mr my mb) (fun v_47 => (if (lg_cmp v_45.1 v_47.1) = 0 then rec18 (x3 + 6) lab sg cc ci od v_45.2.1 go v_45.2.2.1 v_45.2.2.2.1 v_45.2.2.2.2.1 v_45.2.2.2.2.2.1 v_45.2.2.2.2.2.2.1 v_45.2.2.2.2.2.2.2.1 v_45.2.2.2.2.2.2.2.2.1 v_45.2.2.2.2.2.2.2.2.2 mn mc ms ml v_47.2.1 v_47.2.2.1 mo v_47.2.2.2.1 v_47.2.2.2.2.1 v_47.2.2.2.2.2.1 v_47.2.2.2.2.2.2 mf else some (0 : Int32)))) else none))) else none) else (if ((xs x3.toNatClampNeg) &&& (15 : Int32)) = 7 then (if inb (x3 + (1 : Int32)) L then (if (xs (x3 + (1 : Int32)).toNatClampNeg) = 0 then J_law_297 xs L rec18 x3 (0 : Int32) lab sg cc ci od sd go ta we oe fp ro sp qr qs mn mc ms ml mm mt mo mk mr my mb mf else J_law_297 xs L rec18 x3 (1 : Int32) lab sg cc ci od sd go ta we oe fp ro sp qr qs mn mc ms ml mm mt mo mk mr my mb mf) else none) else (if ((xs x3.toNatClampNeg) &&& (15 : Int32)) = 8 then (if inb (x3 + (1 : Int32)) L then (Option.bind (F_B_state (xs (x3 + (1 : Int32)).toNatClampNeg) lab cc ci sd oe fp) (fun v_54 => (if inb (x3 + (1 : Int32)) L then (Option.bind (F_M_state (xs (x3 + (1 : Int32)).toNatClampNeg) mn mc ml mm mt) (fun v_56 => (if v_54.1 = v_56.1 then rec18 (x3 + 6) lab sg cc ci od v_54.2.1 go ta we v_54.2.2.1 v_54.2.2.2 ro sp qr qs mn mc ms ml v_56.2.1 v_56.2.2 mo mk mr my mb mf else some (0 : Int32)))) else none))) else none) else (if ((xs x3.toNatClampNeg) &&& (15 : Int32)) = 9 then (if inb (x3 + (1 : Int32)) L then (if inb (x3 + (2 : Int32)) L then (Option.bind (F_B_look (xs (x3 + (1 : Int32)).toNatClampNeg) (xs (x3 + (2 : Int32)).toNatClampNeg) lab sg cc ci) (fun v_61 => (if inb (x3 + (1 : Int32)) L then (if inb (x3 + (2 : Int32)) L then (Option.bind (F_M_look (xs (x3 + (1 : Int32)).toNatClampNeg) (xs (x3 + (2 : Int32)).toNatClampNeg) mn mc ms ml) (fun v_64 => (if v_61 = v_64 then rec18 (x3 + 6) lab sg cc ci od sd go ta we oe fp ro sp qr qs mn mc ms ml mm mt mo mk mr my mb mf else some (0 : Int32)))) else none) else none))) else none) else none) else (if ((xs x3.toNatClampNeg) &&& (15 : Int32)) = 10 then (if inb (x3 + (1 : Int32)) L then (if inb (x3 + (2 : Int32)) L then (if (xs (x3 + (2 : Int32)).toNatClampNeg) = 0 then J_law_423 xs L rec18 x3 (0 : Int32) (xs (x3 + (1 : Int32)).toNatClampNeg) lab sg cc ci od sd go ta we oe fp ro sp qr qs mn mc ms ml mm mt mo mk mr my mb mf else J_law_423 xs L rec18 x3 (1 : Int32) (xs (x3 + (1 : Int32)).toNatClampNeg) lab sg cc ci od sd go ta we oe fp ro sp qr qs mn mc ms ml mm mt mo mk mr my mb mf) else none) else none) else (if ((xs x3.toNatClampNeg) &&& (15 : Int32)) = 11 then (if inb (x3 + (1 : Int32)) L then (Option.bind (F_B_change (xs (x3 + (1 : Int32)).toNatClampNeg) lab sg cc od we) (fun v_72 => (if inb (x3 + (1 : Int32)) L then (Option.bind (F_M_change (xs (x3 + (1 : Int32)).toNatClampNeg) mn ms ml mk) (fun v_74 => (if v_72.1 = v_74.1 then rec18 (x3 + 6) v_72.2.1 v_72.2.2.1 cc ci v_72.2.2.2.1 sd go ta v_72.2.2.2.2 oe fp ro sp qr qs mn mc v_74.2.1 v_74.2.2.1 mm mt mo v_74.2.2.2 mr my mb mf else some (0 : Int32)))) else none))) else none) else (if ((xs x3.toNatClampNeg) &&& (15 : Int32)) = 12 then (if inb (x3 + (1 : Int32)) L then (if inb (x3 + (2 : Int32)) L then (Option.bind (F_B_move (xs (x3 + (1 : Int32)).toNatClampNeg) (xs (x3 + (2 : Int32)).toNatClampNeg) lab sg cc od we) (fun v_79 => (if inb (x3 + (1 : Int32)) L then (if inb (x3 + (2 : Int32)) L then (Option.bind (F_M_move (xs (x3 + (1 : Int32)).toNatClampNeg) (xs (x3 + (2 : Int32)).toNatClampNeg) mn ms ml) (fun v_82 => (if v_79.1 = v_82.1 then rec18 (x3 + 6) v_79.2.1 v_79.2.2.1 cc ci v_79.2.2.2.1 sd go ta v_79.2.2.2.2 oe fp ro sp qr qs mn mc v_82.2.1 v_82.2.2 mm mt mo mk mr my mb mf else some (0 : Int32)))) else none) else none))) else none) else none) else rec18 (x3 + 6) lab sg cc ci od sd go ta we oe fp ro sp qr qs mn mc ms ml mm mt mo mk mr my mb mf))))))))))))) else none))
def L_law_18 (xs : Nat → Int32) (L : Nat) : Nat → Int32 → (Nat → Int32) → (Nat → Int32) → Int32 → Int32 → (Nat → Int32) → (Nat → Int32) → (Nat → Int32) → (Nat → Int32) → Int32 → (Nat → Int32) → (Nat → Int32) → (Nat → Int64) → (Nat → Int64) → Nat → Nat → Int32 → Int32 → (Nat → Int32) → (Nat → Int32) → (Nat → Int32) → (Nat → Int32) → (Nat → Int32) → Int32 → (Nat → Int64) → (Nat → Int32) → (Nat → Int64) → (Nat → Int32) → Option (Int32)
  | 0 => fun _ _ _ _ _ _ _ _ _ _ _ _ _ _ _ _ _ _ _ _ _ _ _ _ _ _ _ _ => none
  | n + 1 => J_law_18 xs L (L_law_18 xs L n)
def cxL (D : va_G) (tys : List (ClassId × FieldType)) (A : Nat → Prop) (p : Program) (s : State) (m : MethodId) (meth : Method) (c : Code) (b L : Nat) (xs : Nat → Int32) : Prop := lw_At p s m meth c b L xs ∧ va_K D classes tys s ∧ ∀ q : Nat, s.heap.size ≤ q ↔ A q
def H_law_340 (p : Program) (l : Launch) (e : Env) (s : State) (m : MethodId) (below : List Frame) (meth : Method) (c : Code) (D : va_G) (A : Nat → Prop) (a : Nat → Nat) (k : Nat → ClassId) (b L : Nat) (xs : Nat → Int32) (mh : Int32) (f : Int32 → Int32 → Int32 → Int32 → (Nat → Int32) → (Nat → Int32) → Int32 → Int32 → (Nat → Int32) → (Nat → Int32) → (Nat → Int32) → (Nat → Int32) → Int32 → (Nat → Int32) → (Nat → Int32) → (Nat → Int64) → (Nat → Int64) → Nat → Nat → Int32 → Int32 → (Nat → Int32) → (Nat → Int32) → (Nat → Int32) → (Nat → Int32) → (Nat → Int32) → Int32 → (Nat → Int64) → (Nat → Int32) → (Nat → Int64) → (Nat → Int32) → Option (Int32)) : Prop := ∀ (x3 : Int32) (y0 : Int32) (y1 : Int32) (y3 : Int32) (lab : Nat → Int32) (sg : Nat → Int32) (cc : Int32) (ci : Int32) (od : Nat → Int32) (sd : Nat → Int32) (go : Nat → Int32) (ta : Nat → Int32) (we : Int32) (oe : Nat → Int32) (fp : Nat → Int32) (ro : Nat → Int64) (sp : Nat → Int64) (qr : Nat) (qs : Nat) (mn : Int32) (mc : Int32) (ms : Nat → Int32) (ml : Nat → Int32) (mm : Nat → Int32) (mt : Nat → Int32) (mo : Nat → Int32) (mk : Int32) (mr : Nat → Int64) (my : Nat → Int32) (mb : Nat → Int64) (mf : Nat → Int32), f x3 y0 y1 y3 lab sg cc ci od sd go ta we oe fp ro sp qr qs mn mc ms ml mm mt mo mk mr my mb mf = some 1 → ∀ (H : Heap) (locs : List Loc) (ls : Array Slot), va_P D classes (wX a k lab sg cc ci od sd go ta we oe fp ro sp qr qs mh mn mc ms ml mm mt mo mk mr my mb mf) H → va_D A (wX a k lab sg cc ci od sd go ta we oe fp ro sp qr qs mh mn mc ms ml mm mt mo mk mr my mb mf) → va_S A s.heap H locs → lv_has ls 4 [(0, .ref b), (1, .ref (a 0)), (2, .ref (a 20)), (3, .int x3)] → W p l e room_1 s m #[Value.ref b] below meth c H locs 600000 7302250 (lw_Z below #[Value.ref b] s) (F0 m 340 ls [.int y0, .int y1, .ref (a 20), .int y3])
def H_law_327 (p : Program) (l : Launch) (e : Env) (s : State) (m : MethodId) (below : List Frame) (meth : Method) (c : Code) (D : va_G) (A : Nat → Prop) (a : Nat → Nat) (k : Nat → ClassId) (b L : Nat) (xs : Nat → Int32) (mh : Int32) (f : Int32 → Int32 → Int32 → (Nat → Int32) → (Nat → Int32) → Int32 → Int32 → (Nat → Int32) → (Nat → Int32) → (Nat → Int32) → (Nat → Int32) → Int32 → (Nat → Int32) → (Nat → Int32) → (Nat → Int64) → (Nat → Int64) → Nat → Nat → Int32 → Int32 → (Nat → Int32) → (Nat → Int32) → (Nat → Int32) → (Nat → Int32) → (Nat → Int32) → Int32 → (Nat → Int64) → (Nat → Int32) → (Nat → Int64) → (Nat → Int32) → Option (Int32)) : Prop := ∀ (x3 : Int32) (y0 : Int32) (y2 : Int32) (lab : Nat → Int32) (sg : Nat → Int32) (cc : Int32) (ci : Int32) (od : Nat → Int32) (sd : Nat → Int32) (go : Nat → Int32) (ta : Nat → Int32) (we : Int32) (oe : Nat → Int32) (fp : Nat → Int32) (ro : Nat → Int64) (sp : Nat → Int64) (qr : Nat) (qs : Nat) (mn : Int32) (mc : Int32) (ms : Nat → Int32) (ml : Nat → Int32) (mm : Nat → Int32) (mt : Nat → Int32) (mo : Nat → Int32) (mk : Int32) (mr : Nat → Int64) (my : Nat → Int32) (mb : Nat → Int64) (mf : Nat → Int32), f x3 y0 y2 lab sg cc ci od sd go ta we oe fp ro sp qr qs mn mc ms ml mm mt mo mk mr my mb mf = some 1 → ∀ (H : Heap) (locs : List Loc) (ls : Array Slot), va_P D classes (wX a k lab sg cc ci od sd go ta we oe fp ro sp qr qs mh mn mc ms ml mm mt mo mk mr my mb mf) H → va_D A (wX a k lab sg cc ci od sd go ta we oe fp ro sp qr qs mh mn mc ms ml mm mt mo mk mr my mb mf) → va_S A s.heap H locs → lv_has ls 4 [(0, .ref b), (1, .ref (a 0)), (2, .ref (a 20)), (3, .int x3)] → W p l e room_1 s m #[Value.ref b] below meth c H locs 600000 7302250 (lw_Z below #[Value.ref b] s) (F0 m 327 ls [.int y0, .ref (a 20), .int y2])
def H_law_310 (p : Program) (l : Launch) (e : Env) (s : State) (m : MethodId) (below : List Frame) (meth : Method) (c : Code) (D : va_G) (A : Nat → Prop) (a : Nat → Nat) (k : Nat → ClassId) (b L : Nat) (xs : Nat → Int32) (mh : Int32) (f : Int32 → Int32 → Int32 → (Nat → Int32) → (Nat → Int32) → Int32 → Int32 → (Nat → Int32) → (Nat → Int32) → (Nat → Int32) → (Nat → Int32) → Int32 → (Nat → Int32) → (Nat → Int32) → (Nat → Int64) → (Nat → Int64) → Nat → Nat → Int32 → Int32 → (Nat → Int32) → (Nat → Int32) → (Nat → Int32) → (Nat → Int32) → (Nat → Int32) → Int32 → (Nat → Int64) → (Nat → Int32) → (Nat → Int64) → (Nat → Int32) → Option (Int32)) : Prop := ∀ (x3 : Int32) (y0 : Int32) (y1 : Int32) (lab : Nat → Int32) (sg : Nat → Int32) (cc : Int32) (ci : Int32) (od : Nat → Int32) (sd : Nat → Int32) (go : Nat → Int32) (ta : Nat → Int32) (we : Int32) (oe : Nat → Int32) (fp : Nat → Int32) (ro : Nat → Int64) (sp : Nat → Int64) (qr : Nat) (qs : Nat) (mn : Int32) (mc : Int32) (ms : Nat → Int32) (ml : Nat → Int32) (mm : Nat → Int32) (mt : Nat → Int32) (mo : Nat → Int32) (mk : Int32) (mr : Nat → Int64) (my : Nat → Int32) (mb : Nat → Int64) (mf : Nat → Int32), f x3 y0 y1 lab sg cc ci od sd go ta we oe fp ro sp qr qs mn mc ms ml mm mt mo mk mr my mb mf = some 1 → ∀ (H : Heap) (locs : List Loc) (ls : Array Slot), va_P D classes (wX a k lab sg cc ci od sd go ta we oe fp ro sp qr qs mh mn mc ms ml mm mt mo mk mr my mb mf) H → va_D A (wX a k lab sg cc ci od sd go ta we oe fp ro sp qr qs mh mn mc ms ml mm mt mo mk mr my mb mf) → va_S A s.heap H locs → lv_has ls 4 [(0, .ref b), (1, .ref (a 0)), (2, .ref (a 20)), (3, .int x3)] → W p l e room_1 s m #[Value.ref b] below meth c H locs 600000 7302250 (lw_Z below #[Value.ref b] s) (F0 m 310 ls [.int y0, .int y1, .ref (a 0)])
def H_law_297 (p : Program) (l : Launch) (e : Env) (s : State) (m : MethodId) (below : List Frame) (meth : Method) (c : Code) (D : va_G) (A : Nat → Prop) (a : Nat → Nat) (k : Nat → ClassId) (b L : Nat) (xs : Nat → Int32) (mh : Int32) (f : Int32 → Int32 → (Nat → Int32) → (Nat → Int32) → Int32 → Int32 → (Nat → Int32) → (Nat → Int32) → (Nat → Int32) → (Nat → Int32) → Int32 → (Nat → Int32) → (Nat → Int32) → (Nat → Int64) → (Nat → Int64) → Nat → Nat → Int32 → Int32 → (Nat → Int32) → (Nat → Int32) → (Nat → Int32) → (Nat → Int32) → (Nat → Int32) → Int32 → (Nat → Int64) → (Nat → Int32) → (Nat → Int64) → (Nat → Int32) → Option (Int32)) : Prop := ∀ (x3 : Int32) (y0 : Int32) (lab : Nat → Int32) (sg : Nat → Int32) (cc : Int32) (ci : Int32) (od : Nat → Int32) (sd : Nat → Int32) (go : Nat → Int32) (ta : Nat → Int32) (we : Int32) (oe : Nat → Int32) (fp : Nat → Int32) (ro : Nat → Int64) (sp : Nat → Int64) (qr : Nat) (qs : Nat) (mn : Int32) (mc : Int32) (ms : Nat → Int32) (ml : Nat → Int32) (mm : Nat → Int32) (mt : Nat → Int32) (mo : Nat → Int32) (mk : Int32) (mr : Nat → Int64) (my : Nat → Int32) (mb : Nat → Int64) (mf : Nat → Int32), f x3 y0 lab sg cc ci od sd go ta we oe fp ro sp qr qs mn mc ms ml mm mt mo mk mr my mb mf = some 1 → ∀ (H : Heap) (locs : List Loc) (ls : Array Slot), va_P D classes (wX a k lab sg cc ci od sd go ta we oe fp ro sp qr qs mh mn mc ms ml mm mt mo mk mr my mb mf) H → va_D A (wX a k lab sg cc ci od sd go ta we oe fp ro sp qr qs mh mn mc ms ml mm mt mo mk mr my mb mf) → va_S A s.heap H locs → lv_has ls 4 [(0, .ref b), (1, .ref (a 0)), (2, .ref (a 20)), (3, .int x3)] → W p l e room_1 s m #[Value.ref b] below meth c H locs 600000 7302250 (lw_Z below #[Value.ref b] s) (F0 m 297 ls [.int y0, .ref (a 0)])
def H_law_445 (p : Program) (l : Launch) (e : Env) (s : State) (m : MethodId) (below : List Frame) (meth : Method) (c : Code) (D : va_G) (A : Nat → Prop) (a : Nat → Nat) (k : Nat → ClassId) (b L : Nat) (xs : Nat → Int32) (mh : Int32) (f : Int32 → Int32 → Int32 → Int32 → (Nat → Int32) → (Nat → Int32) → Int32 → Int32 → (Nat → Int32) → (Nat → Int32) → (Nat → Int32) → (Nat → Int32) → Int32 → (Nat → Int32) → (Nat → Int32) → (Nat → Int64) → (Nat → Int64) → Nat → Nat → Int32 → Int32 → (Nat → Int32) → (Nat → Int32) → (Nat → Int32) → (Nat → Int32) → (Nat → Int32) → Int32 → (Nat → Int64) → (Nat → Int32) → (Nat → Int64) → (Nat → Int32) → Option (Int32)) : Prop := ∀ (x3 : Int32) (y0 : Int32) (y1 : Int32) (y3 : Int32) (lab : Nat → Int32) (sg : Nat → Int32) (cc : Int32) (ci : Int32) (od : Nat → Int32) (sd : Nat → Int32) (go : Nat → Int32) (ta : Nat → Int32) (we : Int32) (oe : Nat → Int32) (fp : Nat → Int32) (ro : Nat → Int64) (sp : Nat → Int64) (qr : Nat) (qs : Nat) (mn : Int32) (mc : Int32) (ms : Nat → Int32) (ml : Nat → Int32) (mm : Nat → Int32) (mt : Nat → Int32) (mo : Nat → Int32) (mk : Int32) (mr : Nat → Int64) (my : Nat → Int32) (mb : Nat → Int64) (mf : Nat → Int32), f x3 y0 y1 y3 lab sg cc ci od sd go ta we oe fp ro sp qr qs mn mc ms ml mm mt mo mk mr my mb mf = some 1 → ∀ (H : Heap) (locs : List Loc) (ls : Array Slot), va_P D classes (wX a k lab sg cc ci od sd go ta we oe fp ro sp qr qs mh mn mc ms ml mm mt mo mk mr my mb mf) H → va_D A (wX a k lab sg cc ci od sd go ta we oe fp ro sp qr qs mh mn mc ms ml mm mt mo mk mr my mb mf) → va_S A s.heap H locs → lv_has ls 4 [(0, .ref b), (1, .ref (a 0)), (2, .ref (a 20)), (3, .int x3)] → W p l e room_1 s m #[Value.ref b] below meth c H locs 600000 7302250 (lw_Z below #[Value.ref b] s) (F0 m 445 ls [.int y0, .int y1, .ref (a 20), .int y3])
def H_law_423 (p : Program) (l : Launch) (e : Env) (s : State) (m : MethodId) (below : List Frame) (meth : Method) (c : Code) (D : va_G) (A : Nat → Prop) (a : Nat → Nat) (k : Nat → ClassId) (b L : Nat) (xs : Nat → Int32) (mh : Int32) (f : Int32 → Int32 → Int32 → (Nat → Int32) → (Nat → Int32) → Int32 → Int32 → (Nat → Int32) → (Nat → Int32) → (Nat → Int32) → (Nat → Int32) → Int32 → (Nat → Int32) → (Nat → Int32) → (Nat → Int64) → (Nat → Int64) → Nat → Nat → Int32 → Int32 → (Nat → Int32) → (Nat → Int32) → (Nat → Int32) → (Nat → Int32) → (Nat → Int32) → Int32 → (Nat → Int64) → (Nat → Int32) → (Nat → Int64) → (Nat → Int32) → Option (Int32)) : Prop := ∀ (x3 : Int32) (y0 : Int32) (y1 : Int32) (lab : Nat → Int32) (sg : Nat → Int32) (cc : Int32) (ci : Int32) (od : Nat → Int32) (sd : Nat → Int32) (go : Nat → Int32) (ta : Nat → Int32) (we : Int32) (oe : Nat → Int32) (fp : Nat → Int32) (ro : Nat → Int64) (sp : Nat → Int64) (qr : Nat) (qs : Nat) (mn : Int32) (mc : Int32) (ms : Nat → Int32) (ml : Nat → Int32) (mm : Nat → Int32) (mt : Nat → Int32) (mo : Nat → Int32) (mk : Int32) (mr : Nat → Int64) (my : Nat → Int32) (mb : Nat → Int64) (mf : Nat → Int32), f x3 y0 y1 lab sg cc ci od sd go ta we oe fp ro sp qr qs mn mc ms ml mm mt mo mk mr my mb mf = some 1 → ∀ (H : Heap) (locs : List Loc) (ls : Array Slot), va_P D classes (wX a k lab sg cc ci od sd go ta we oe fp ro sp qr qs mh mn mc ms ml mm mt mo mk mr my mb mf) H → va_D A (wX a k lab sg cc ci od sd go ta we oe fp ro sp qr qs mh mn mc ms ml mm mt mo mk mr my mb mf) → va_S A s.heap H locs → lv_has ls 4 [(0, .ref b), (1, .ref (a 0)), (2, .ref (a 20)), (3, .int x3)] → W p l e room_1 s m #[Value.ref b] below meth c H locs 600000 7302250 (lw_Z below #[Value.ref b] s) (F0 m 423 ls [.int y0, .int y1, .ref (a 0)])
def H_law_18 (p : Program) (l : Launch) (e : Env) (s : State) (m : MethodId) (below : List Frame) (meth : Method) (c : Code) (D : va_G) (A : Nat → Prop) (a : Nat → Nat) (k : Nat → ClassId) (b L : Nat) (xs : Nat → Int32) (mh : Int32) (f : Int32 → (Nat → Int32) → (Nat → Int32) → Int32 → Int32 → (Nat → Int32) → (Nat → Int32) → (Nat → Int32) → (Nat → Int32) → Int32 → (Nat → Int32) → (Nat → Int32) → (Nat → Int64) → (Nat → Int64) → Nat → Nat → Int32 → Int32 → (Nat → Int32) → (Nat → Int32) → (Nat → Int32) → (Nat → Int32) → (Nat → Int32) → Int32 → (Nat → Int64) → (Nat → Int32) → (Nat → Int64) → (Nat → Int32) → Option (Int32)) : Prop := ∀ (x3 : Int32) (lab : Nat → Int32) (sg : Nat → Int32) (cc : Int32) (ci : Int32) (od : Nat → Int32) (sd : Nat → Int32) (go : Nat → Int32) (ta : Nat → Int32) (we : Int32) (oe : Nat → Int32) (fp : Nat → Int32) (ro : Nat → Int64) (sp : Nat → Int64) (qr : Nat) (qs : Nat) (mn : Int32) (mc : Int32) (ms : Nat → Int32) (ml : Nat → Int32) (mm : Nat → Int32) (mt : Nat → Int32) (mo : Nat → Int32) (mk : Int32) (mr : Nat → Int64) (my : Nat → Int32) (mb : Nat → Int64) (mf : Nat → Int32), f x3 lab sg cc ci od sd go ta we oe fp ro sp qr qs mn mc ms ml mm mt mo mk mr my mb mf = some 1 → ∀ (H : Heap) (locs : List Loc) (ls : Array Slot), va_P D classes (wX a k lab sg cc ci od sd go ta we oe fp ro sp qr qs mh mn mc ms ml mm mt mo mk mr my mb mf) H → va_D A (wX a k lab sg cc ci od sd go ta we oe fp ro sp qr qs mh mn mc ms ml mm mt mo mk mr my mb mf) → va_S A s.heap H locs → lv_has ls 4 [(0, .ref b), (1, .ref (a 0)), (2, .ref (a 20)), (3, .int x3)] → W p l e room_1 s m #[Value.ref b] below meth c H locs 600000 7302250 (lw_Z below #[Value.ref b] s) (F0 m 18 ls [])
set_option maxHeartbeats 40000000 in
set_option maxRecDepth 100000 in
theorem k_law_340 {p : Program} {l : Launch} {e : Env} {s : State} {m : MethodId} {below : List Frame} {meth : Method} {c : Code} {D : va_G} {A : Nat → Prop} {a : Nat → Nat} {k : Nat → ClassId} {b L : Nat} {xs : Nat → Int32} {mh : Int32} {rec18 : Int32 → (Nat → Int32) → (Nat → Int32) → Int32 → Int32 → (Nat → Int32) → (Nat → Int32) → (Nat → Int32) → (Nat → Int32) → Int32 → (Nat → Int32) → (Nat → Int32) → (Nat → Int64) → (Nat → Int64) → Nat → Nat → Int32 → Int32 → (Nat → Int32) → (Nat → Int32) → (Nat → Int32) → (Nat → Int32) → (Nat → Int32) → Int32 → (Nat → Int64) → (Nat → Int32) → (Nat → Int64) → (Nat → Int32) → Option (Int32)} (C : cxL D [(k 1, .int), (k 2, .int), (k 3, .int), (k 4, .int), (k 5, .boolean), (k 6, .int), (k 8, .int), (k 9, .int), (k 11, .long), (k 21, .int), (k 22, .int), (k 23, .int), (k 24, .boolean), (k 25, .boolean), (k 26, .long), (k 27, .int), (k 28, .long), (k 29, .int)] A p s m meth c b L xs) (hrec18 : H_law_18 p l e s m below meth c D A a k b L xs mh rec18) : H_law_340 p l e s m below meth c D A a k b L xs mh (J_law_340 xs L rec18) := by
  obtain ⟨⟨hx, hb, hr, hml, hown, hts, hX, hbl, hlk, hgv⟩, hK, hAA⟩ := id C
  have ht : ∀ w ∈ lw_g, w.before #[Value.ref b] s = true := fun w h => hts w (List.mem_filter.mp h).1
  have hA : ∀ q : Nat, s.heap.size ≤ q → A q := fun q h => (hAA q).mp h
  have hbA : ¬ A b := fun h => absurd ((hAA b).mpr h) (Nat.not_le.mpr hbl)
  intro x3 y0 y1 y3 lab sg cc ci od sd go ta we oe fp ro sp qr qs mn mc ms ml mm mt mo mk mr my mb mf h H locs ls hP hD hS hl
  unfold J_law_340 at h
  obtain ⟨v_1, e_1, h⟩ := bd_some h
  refine go_Vi (r := v_1.1) (As := [.int y1, .int y0]) (rest := [.int y3]) (wc := (wM a k mh mn mc ms ml mm mt mo mk mr my mb mf)) (wr := [((a 0), .inr (0, [.ref (a 1), .ref (a 2), .int cc, .int ci, .ref (a 3), .ref (a 4), .ref (a 5), .ref (a 6), .ref (a 7), .ref (a 10), .int we])), ((a 1), .inl (k 1, 40, .inl lab)), ((a 2), .inl (k 2, 10, .inl sg)), ((a 3), .inl (k 3, 10, .inl od)), ((a 4), .inl (k 4, 100, .inl sd)), ((a 5), .inl (k 5, 10, .inl go)), ((a 6), .inl (k 6, 330, .inl ta)), ((a 7), .inr (1, [.ref (a 8), .ref (a 9)])), ((a 8), .inl (k 8, 40, .inl oe)), ((a 9), .inl (k 9, 100, .inl fp)), ((a 10), .inr (2, [.ref qr, .ref qs])), (qr, .inl (k 11, 133, .inr (.inl ro))), (qs, .inl (k 11, 133, .inr (.inl sp)))]) (w1 := (wM a k mh mn mc ms ml v_1.2.1 v_1.2.2.1 mo v_1.2.2.2.1 v_1.2.2.2.2.1 v_1.2.2.2.2.2.1 v_1.2.2.2.2.2.2 mf)) (w2 := (wX a k lab sg cc ci od sd go ta we oe fp ro sp qr qs mh mn mc ms ml v_1.2.1 v_1.2.2.1 mo v_1.2.2.2.1 v_1.2.2.2.2.1 v_1.2.2.2.2.2.1 v_1.2.2.2.2.2.2 mf)) (tc := [(k 21, .int), (k 22, .int), (k 23, .int), (k 24, .boolean), (k 25, .boolean), (k 26, .long), (k 27, .int), (k 28, .long), (k 29, .int)]) hx hb hml hown ht (c_M_span l D a k H.size y1 y0 mh mn mc ms ml mm mt mo mk mr my mb mf v_1 e_1) g_law_49 ⟨rfl, rfl⟩ (n := 2) (by decide +kernel) ⟨(Nat.le_of_ble_eq_true rfl), (Nat.le_of_ble_eq_true rfl)⟩ hP hD hK hS hA ⟨Nat.le_of_ble_eq_true rfl, Nat.le_of_ble_eq_true rfl⟩ [13, 14, 15, 16, 17, 18, 19, 20, 21, 22] [0, 1, 2, 3, 4, 5, 6, 7, 8, 9, 10, 11, 12] [9, 10, 11, 12, 13, 14, 15, 16, 17] [0, 1, 2, 3, 4, 5, 6, 7, 8, 9, 10, 11, 12, 13, 14, 15, 16, 17, 18, 19, 20, 21, 22] rfl rfl rfl rfl (by decide) (by decide) (by decide) rfl (by decide) 0 rfl rfl rfl rfl rfl hl.1 (Nat.le_of_ble_eq_true rfl) d_law_340 (fun H locs hP hD hS => ?_)
  refine lv_icmp_eq (tgt := 509) hx hb d_law_343 (by decide) (fun c_2 => ?_) (fun c_2 => ?_)
  · have h := ite_T c_2 h
    refine lv_iinc (v := x3 + 6) (lv' := [(3, .int (x3 + 6)), (0, .ref b), (1, .ref (a 0)), (2, .ref (a 20))]) hx hb d_law_509 hl (k := 3) rfl rfl (by decide) rfl (fun ls hl => ?_)
    refine lv_goto (tgt := 18) hx hb d_law_512 (by decide) ?_
    exact hrec18 _ _ _ _ _ _ _ _ _ _ _ _ _ _ _ _ _ _ _ _ _ _ _ _ _ _ _ _ h _ _ _ hP hD hS (lv_sub hl [1, 2, 3, 0] rfl)
  · have h := ite_F c_2 h
    refine lv_iconst (v := 0) hx hb d_law_346 (by decide) ?_
    exact absurd h (by decide)
set_option maxHeartbeats 40000000 in
set_option maxRecDepth 100000 in
theorem k_law_327 {p : Program} {l : Launch} {e : Env} {s : State} {m : MethodId} {below : List Frame} {meth : Method} {c : Code} {D : va_G} {A : Nat → Prop} {a : Nat → Nat} {k : Nat → ClassId} {b L : Nat} {xs : Nat → Int32} {mh : Int32} {rec18 : Int32 → (Nat → Int32) → (Nat → Int32) → Int32 → Int32 → (Nat → Int32) → (Nat → Int32) → (Nat → Int32) → (Nat → Int32) → Int32 → (Nat → Int32) → (Nat → Int32) → (Nat → Int64) → (Nat → Int64) → Nat → Nat → Int32 → Int32 → (Nat → Int32) → (Nat → Int32) → (Nat → Int32) → (Nat → Int32) → (Nat → Int32) → Int32 → (Nat → Int64) → (Nat → Int32) → (Nat → Int64) → (Nat → Int32) → Option (Int32)} (C : cxL D [(k 1, .int), (k 2, .int), (k 3, .int), (k 4, .int), (k 5, .boolean), (k 6, .int), (k 8, .int), (k 9, .int), (k 11, .long), (k 21, .int), (k 22, .int), (k 23, .int), (k 24, .boolean), (k 25, .boolean), (k 26, .long), (k 27, .int), (k 28, .long), (k 29, .int)] A p s m meth c b L xs) (hrec18 : H_law_18 p l e s m below meth c D A a k b L xs mh rec18) : H_law_327 p l e s m below meth c D A a k b L xs mh (J_law_327 xs L rec18) := by
  obtain ⟨⟨hx, hb, hr, hml, hown, hts, hX, hbl, hlk, hgv⟩, hK, hAA⟩ := id C
  have ht : ∀ w ∈ lw_g, w.before #[Value.ref b] s = true := fun w h => hts w (List.mem_filter.mp h).1
  have hA : ∀ q : Nat, s.heap.size ≤ q → A q := fun q h => (hAA q).mp h
  have hbA : ¬ A b := fun h => absurd ((hAA b).mpr h) (Nat.not_le.mpr hbl)
  intro x3 y0 y2 lab sg cc ci od sd go ta we oe fp ro sp qr qs mn mc ms ml mm mt mo mk mr my mb mf h H locs ls hP hD hS hl
  unfold J_law_327 at h
  refine lv_aload_n hx hb d_law_327 rfl (lv_at hl 0 rfl) ?_
  refine lv_iload_n hx hb d_law_328 rfl (lv_at hl 3 rfl) ?_
  refine lv_iconst (v := 2) hx hb d_law_329 (by decide) ?_
  refine lv_iadd hx hb d_law_330 ?_
  obtain ⟨g_1, h⟩ := gd_some h
  refine va_sld hx hb hX hbl hbA hS (inb_in g_1) d_law_331 ?_
  refine lv_if_eq (tgt := 339) hx hb d_law_332 (by decide) (fun c_2 => ?_) (fun c_2 => ?_)
  · have h := ite_T c_2 h
    refine lv_iconst (v := 0) hx hb d_law_339 (by decide) ?_
    exact (k_law_340 C hrec18) _ _ _ _ _ _ _ _ _ _ _ _ _ _ _ _ _ _ _ _ _ _ _ _ _ _ _ _ _ _ _ h _ _ _ hP hD hS (lv_sub hl [0, 1, 2, 3] rfl)
  · have h := ite_F c_2 h
    refine lv_iconst (v := 1) hx hb d_law_335 (by decide) ?_
    refine lv_goto (tgt := 340) hx hb d_law_336 (by decide) ?_
    exact (k_law_340 C hrec18) _ _ _ _ _ _ _ _ _ _ _ _ _ _ _ _ _ _ _ _ _ _ _ _ _ _ _ _ _ _ _ h _ _ _ hP hD hS (lv_sub hl [0, 1, 2, 3] rfl)
set_option maxHeartbeats 40000000 in
set_option maxRecDepth 100000 in
theorem k_law_310 {p : Program} {l : Launch} {e : Env} {s : State} {m : MethodId} {below : List Frame} {meth : Method} {c : Code} {D : va_G} {A : Nat → Prop} {a : Nat → Nat} {k : Nat → ClassId} {b L : Nat} {xs : Nat → Int32} {mh : Int32} {rec18 : Int32 → (Nat → Int32) → (Nat → Int32) → Int32 → Int32 → (Nat → Int32) → (Nat → Int32) → (Nat → Int32) → (Nat → Int32) → Int32 → (Nat → Int32) → (Nat → Int32) → (Nat → Int64) → (Nat → Int64) → Nat → Nat → Int32 → Int32 → (Nat → Int32) → (Nat → Int32) → (Nat → Int32) → (Nat → Int32) → (Nat → Int32) → Int32 → (Nat → Int64) → (Nat → Int32) → (Nat → Int64) → (Nat → Int32) → Option (Int32)} (C : cxL D [(k 1, .int), (k 2, .int), (k 3, .int), (k 4, .int), (k 5, .boolean), (k 6, .int), (k 8, .int), (k 9, .int), (k 11, .long), (k 21, .int), (k 22, .int), (k 23, .int), (k 24, .boolean), (k 25, .boolean), (k 26, .long), (k 27, .int), (k 28, .long), (k 29, .int)] A p s m meth c b L xs) (hrec18 : H_law_18 p l e s m below meth c D A a k b L xs mh rec18) : H_law_310 p l e s m below meth c D A a k b L xs mh (J_law_310 xs L rec18) := by
  obtain ⟨⟨hx, hb, hr, hml, hown, hts, hX, hbl, hlk, hgv⟩, hK, hAA⟩ := id C
  have ht : ∀ w ∈ lw_g, w.before #[Value.ref b] s = true := fun w h => hts w (List.mem_filter.mp h).1
  have hA : ∀ q : Nat, s.heap.size ≤ q → A q := fun q h => (hAA q).mp h
  have hbA : ¬ A b := fun h => absurd ((hAA b).mpr h) (Nat.not_le.mpr hbl)
  intro x3 y0 y1 lab sg cc ci od sd go ta we oe fp ro sp qr qs mn mc ms ml mm mt mo mk mr my mb mf h H locs ls hP hD hS hl
  unfold J_law_310 at h
  obtain ⟨v_1, e_1, h⟩ := bd_some h
  refine go_Vi (r := v_1.1) (As := [.int y1, .int y0]) (rest := []) (wc := (wB a k lab sg cc ci od sd go ta we oe fp ro sp qr qs)) (wr := [((a 20), .inr (3, [.int mh, .int mn, .int mc, .ref (a 21), .ref (a 22), .ref (a 23), .ref (a 24), .ref (a 25), .int mk, .ref (a 26), .ref (a 27), .ref (a 28), .ref (a 29)])), ((a 21), .inl (k 21, 10, .inl ms)), ((a 22), .inl (k 22, 40, .inl ml)), ((a 23), .inl (k 23, 40, .inl mm)), ((a 24), .inl (k 24, 40, .inl mt)), ((a 25), .inl (k 25, 10, .inl mo)), ((a 26), .inl (k 26, 260, .inr (.inl mr))), ((a 27), .inl (k 27, 672, .inl my)), ((a 28), .inl (k 28, 40, .inr (.inl mb))), ((a 29), .inl (k 29, 4, .inl mf))]) (w1 := (wB a k lab sg cc ci od v_1.2.1 go v_1.2.2.1 v_1.2.2.2.1 v_1.2.2.2.2.1 v_1.2.2.2.2.2.1 v_1.2.2.2.2.2.2.1 v_1.2.2.2.2.2.2.2.1 v_1.2.2.2.2.2.2.2.2.1 v_1.2.2.2.2.2.2.2.2.2)) (w2 := (wX a k lab sg cc ci od v_1.2.1 go v_1.2.2.1 v_1.2.2.2.1 v_1.2.2.2.2.1 v_1.2.2.2.2.2.1 v_1.2.2.2.2.2.2.1 v_1.2.2.2.2.2.2.2.1 v_1.2.2.2.2.2.2.2.2.1 v_1.2.2.2.2.2.2.2.2.2 mh mn mc ms ml mm mt mo mk mr my mb mf)) (tc := [(k 1, .int), (k 2, .int), (k 3, .int), (k 4, .int), (k 5, .boolean), (k 6, .int), (k 8, .int), (k 9, .int), (k 11, .long)]) hx hb hml hown ht (c_B_span l D a k H.size y1 y0 lab sg cc ci od sd go ta we oe fp ro sp qr qs v_1 e_1) g_law_45 ⟨rfl, rfl⟩ (n := 2) (by decide +kernel) ⟨(Nat.le_of_ble_eq_true rfl), (Nat.le_of_ble_eq_true rfl)⟩ hP hD hK hS hA ⟨Nat.le_of_ble_eq_true rfl, Nat.le_of_ble_eq_true rfl⟩ [0, 1, 2, 3, 4, 5, 6, 7, 8, 9, 10, 11, 12] [13, 14, 15, 16, 17, 18, 19, 20, 21, 22] [0, 1, 2, 3, 4, 5, 6, 7, 8] [10, 11, 12, 13, 14, 15, 16, 17, 18, 19, 20, 21, 22, 0, 1, 2, 3, 4, 5, 6, 7, 8, 9] rfl rfl rfl rfl (by decide) (by decide) (by decide) rfl (by decide) 0 rfl rfl rfl rfl rfl hl.1 (Nat.le_of_ble_eq_true rfl) d_law_310 (fun H locs hP hD hS => ?_)
  refine lv_aload_n hx hb d_law_313 rfl (lv_at hl 2 rfl) ?_
  refine lv_aload_n hx hb d_law_314 rfl (lv_at hl 0 rfl) ?_
  refine lv_iload_n hx hb d_law_315 rfl (lv_at hl 3 rfl) ?_
  refine lv_iconst (v := 1) hx hb d_law_316 (by decide) ?_
  refine lv_iadd hx hb d_law_317 ?_
  obtain ⟨g_2, h⟩ := gd_some h
  refine va_sld hx hb hX hbl hbA hS (inb_in g_2) d_law_318 ?_
  refine lv_if_eq (tgt := 326) hx hb d_law_319 (by decide) (fun c_3 => ?_) (fun c_3 => ?_)
  · have h := ite_T c_3 h
    refine lv_iconst (v := 0) hx hb d_law_326 (by decide) ?_
    exact (k_law_327 C hrec18) _ _ _ _ _ _ _ _ _ _ _ _ _ _ _ _ _ _ _ _ _ _ _ _ _ _ _ _ _ _ h _ _ _ hP hD hS (lv_sub hl [0, 1, 2, 3] rfl)
  · have h := ite_F c_3 h
    refine lv_iconst (v := 1) hx hb d_law_322 (by decide) ?_
    refine lv_goto (tgt := 327) hx hb d_law_323 (by decide) ?_
    exact (k_law_327 C hrec18) _ _ _ _ _ _ _ _ _ _ _ _ _ _ _ _ _ _ _ _ _ _ _ _ _ _ _ _ _ _ h _ _ _ hP hD hS (lv_sub hl [0, 1, 2, 3] rfl)
set_option maxHeartbeats 40000000 in
set_option maxRecDepth 100000 in
theorem k_law_297 {p : Program} {l : Launch} {e : Env} {s : State} {m : MethodId} {below : List Frame} {meth : Method} {c : Code} {D : va_G} {A : Nat → Prop} {a : Nat → Nat} {k : Nat → ClassId} {b L : Nat} {xs : Nat → Int32} {mh : Int32} {rec18 : Int32 → (Nat → Int32) → (Nat → Int32) → Int32 → Int32 → (Nat → Int32) → (Nat → Int32) → (Nat → Int32) → (Nat → Int32) → Int32 → (Nat → Int32) → (Nat → Int32) → (Nat → Int64) → (Nat → Int64) → Nat → Nat → Int32 → Int32 → (Nat → Int32) → (Nat → Int32) → (Nat → Int32) → (Nat → Int32) → (Nat → Int32) → Int32 → (Nat → Int64) → (Nat → Int32) → (Nat → Int64) → (Nat → Int32) → Option (Int32)} (C : cxL D [(k 1, .int), (k 2, .int), (k 3, .int), (k 4, .int), (k 5, .boolean), (k 6, .int), (k 8, .int), (k 9, .int), (k 11, .long), (k 21, .int), (k 22, .int), (k 23, .int), (k 24, .boolean), (k 25, .boolean), (k 26, .long), (k 27, .int), (k 28, .long), (k 29, .int)] A p s m meth c b L xs) (hrec18 : H_law_18 p l e s m below meth c D A a k b L xs mh rec18) : H_law_297 p l e s m below meth c D A a k b L xs mh (J_law_297 xs L rec18) := by
  obtain ⟨⟨hx, hb, hr, hml, hown, hts, hX, hbl, hlk, hgv⟩, hK, hAA⟩ := id C
  have ht : ∀ w ∈ lw_g, w.before #[Value.ref b] s = true := fun w h => hts w (List.mem_filter.mp h).1
  have hA : ∀ q : Nat, s.heap.size ≤ q → A q := fun q h => (hAA q).mp h
  have hbA : ¬ A b := fun h => absurd ((hAA b).mpr h) (Nat.not_le.mpr hbl)
  intro x3 y0 lab sg cc ci od sd go ta we oe fp ro sp qr qs mn mc ms ml mm mt mo mk mr my mb mf h H locs ls hP hD hS hl
  unfold J_law_297 at h
  refine lv_aload_n hx hb d_law_297 rfl (lv_at hl 0 rfl) ?_
  refine lv_iload_n hx hb d_law_298 rfl (lv_at hl 3 rfl) ?_
  refine lv_iconst (v := 2) hx hb d_law_299 (by decide) ?_
  refine lv_iadd hx hb d_law_300 ?_
  obtain ⟨g_1, h⟩ := gd_some h
  refine va_sld hx hb hX hbl hbA hS (inb_in g_1) d_law_301 ?_
  refine lv_if_eq (tgt := 309) hx hb d_law_302 (by decide) (fun c_2 => ?_) (fun c_2 => ?_)
  · have h := ite_T c_2 h
    refine lv_iconst (v := 0) hx hb d_law_309 (by decide) ?_
    exact (k_law_310 C hrec18) _ _ _ _ _ _ _ _ _ _ _ _ _ _ _ _ _ _ _ _ _ _ _ _ _ _ _ _ _ _ h _ _ _ hP hD hS (lv_sub hl [0, 1, 2, 3] rfl)
  · have h := ite_F c_2 h
    refine lv_iconst (v := 1) hx hb d_law_305 (by decide) ?_
    refine lv_goto (tgt := 310) hx hb d_law_306 (by decide) ?_
    exact (k_law_310 C hrec18) _ _ _ _ _ _ _ _ _ _ _ _ _ _ _ _ _ _ _ _ _ _ _ _ _ _ _ _ _ _ h _ _ _ hP hD hS (lv_sub hl [0, 1, 2, 3] rfl)
set_option maxHeartbeats 40000000 in
set_option maxRecDepth 100000 in
theorem k_law_445 {p : Program} {l : Launch} {e : Env} {s : State} {m : MethodId} {below : List Frame} {meth : Method} {c : Code} {D : va_G} {A : Nat → Prop} {a : Nat → Nat} {k : Nat → ClassId} {b L : Nat} {xs : Nat → Int32} {mh : Int32} {rec18 : Int32 → (Nat → Int32) → (Nat → Int32) → Int32 → Int32 → (Nat → Int32) → (Nat → Int32) → (Nat → Int32) → (Nat → Int32) → Int32 → (Nat → Int32) → (Nat → Int32) → (Nat → Int64) → (Nat → Int64) → Nat → Nat → Int32 → Int32 → (Nat → Int32) → (Nat → Int32) → (Nat → Int32) → (Nat → Int32) → (Nat → Int32) → Int32 → (Nat → Int64) → (Nat → Int32) → (Nat → Int64) → (Nat → Int32) → Option (Int32)} (C : cxL D [(k 1, .int), (k 2, .int), (k 3, .int), (k 4, .int), (k 5, .boolean), (k 6, .int), (k 8, .int), (k 9, .int), (k 11, .long), (k 21, .int), (k 22, .int), (k 23, .int), (k 24, .boolean), (k 25, .boolean), (k 26, .long), (k 27, .int), (k 28, .long), (k 29, .int)] A p s m meth c b L xs) (hrec18 : H_law_18 p l e s m below meth c D A a k b L xs mh rec18) : H_law_445 p l e s m below meth c D A a k b L xs mh (J_law_445 xs L rec18) := by
  obtain ⟨⟨hx, hb, hr, hml, hown, hts, hX, hbl, hlk, hgv⟩, hK, hAA⟩ := id C
  have ht : ∀ w ∈ lw_g, w.before #[Value.ref b] s = true := fun w h => hts w (List.mem_filter.mp h).1
  have hA : ∀ q : Nat, s.heap.size ≤ q → A q := fun q h => (hAA q).mp h
  have hbA : ¬ A b := fun h => absurd ((hAA b).mpr h) (Nat.not_le.mpr hbl)
  intro x3 y0 y1 y3 lab sg cc ci od sd go ta we oe fp ro sp qr qs mn mc ms ml mm mt mo mk mr my mb mf h H locs ls hP hD hS hl
  unfold J_law_445 at h
  obtain ⟨v_1, e_1, h⟩ := bd_some h
  refine go_Vi (r := v_1.1) (As := [.int y1, .int y0]) (rest := [.int y3]) (wc := (wM a k mh mn mc ms ml mm mt mo mk mr my mb mf)) (wr := [((a 0), .inr (0, [.ref (a 1), .ref (a 2), .int cc, .int ci, .ref (a 3), .ref (a 4), .ref (a 5), .ref (a 6), .ref (a 7), .ref (a 10), .int we])), ((a 1), .inl (k 1, 40, .inl lab)), ((a 2), .inl (k 2, 10, .inl sg)), ((a 3), .inl (k 3, 10, .inl od)), ((a 4), .inl (k 4, 100, .inl sd)), ((a 5), .inl (k 5, 10, .inl go)), ((a 6), .inl (k 6, 330, .inl ta)), ((a 7), .inr (1, [.ref (a 8), .ref (a 9)])), ((a 8), .inl (k 8, 40, .inl oe)), ((a 9), .inl (k 9, 100, .inl fp)), ((a 10), .inr (2, [.ref qr, .ref qs])), (qr, .inl (k 11, 133, .inr (.inl ro))), (qs, .inl (k 11, 133, .inr (.inl sp)))]) (w1 := (wM a k mh v_1.2.1 v_1.2.2.1 v_1.2.2.2.1 v_1.2.2.2.2.1 mm mt mo v_1.2.2.2.2.2.1 mr my mb v_1.2.2.2.2.2.2)) (w2 := (wX a k lab sg cc ci od sd go ta we oe fp ro sp qr qs mh v_1.2.1 v_1.2.2.1 v_1.2.2.2.1 v_1.2.2.2.2.1 mm mt mo v_1.2.2.2.2.2.1 mr my mb v_1.2.2.2.2.2.2)) (tc := [(k 21, .int), (k 22, .int), (k 23, .int), (k 24, .boolean), (k 25, .boolean), (k 26, .long), (k 27, .int), (k 28, .long), (k 29, .int)]) hx hb hml hown ht (c_M_resolve l D a k H.size y1 y0 mh mn mc ms ml mm mt mo mk mr my mb mf v_1 e_1) g_law_63 ⟨rfl, rfl⟩ (n := 2) (by decide +kernel) ⟨(Nat.le_of_ble_eq_true rfl), (Nat.le_of_ble_eq_true rfl)⟩ hP hD hK hS hA ⟨Nat.le_of_ble_eq_true rfl, Nat.le_of_ble_eq_true rfl⟩ [13, 14, 15, 16, 17, 18, 19, 20, 21, 22] [0, 1, 2, 3, 4, 5, 6, 7, 8, 9, 10, 11, 12] [9, 10, 11, 12, 13, 14, 15, 16, 17] [0, 1, 2, 3, 4, 5, 6, 7, 8, 9, 10, 11, 12, 13, 14, 15, 16, 17, 18, 19, 20, 21, 22] rfl rfl rfl rfl (by decide) (by decide) (by decide) rfl (by decide) 0 rfl rfl rfl rfl rfl hl.1 (Nat.le_of_ble_eq_true rfl) d_law_445 (fun H locs hP hD hS => ?_)
  refine lv_icmp_eq (tgt := 509) hx hb d_law_448 (by decide) (fun c_2 => ?_) (fun c_2 => ?_)
  · have h := ite_T c_2 h
    refine lv_iinc (v := x3 + 6) (lv' := [(3, .int (x3 + 6)), (0, .ref b), (1, .ref (a 0)), (2, .ref (a 20))]) hx hb d_law_509 hl (k := 3) rfl rfl (by decide) rfl (fun ls hl => ?_)
    refine lv_goto (tgt := 18) hx hb d_law_512 (by decide) ?_
    exact hrec18 _ _ _ _ _ _ _ _ _ _ _ _ _ _ _ _ _ _ _ _ _ _ _ _ _ _ _ _ h _ _ _ hP hD hS (lv_sub hl [1, 2, 3, 0] rfl)
  · have h := ite_F c_2 h
    refine lv_iconst (v := 0) hx hb d_law_451 (by decide) ?_
    exact absurd h (by decide)
set_option maxHeartbeats 40000000 in
set_option maxRecDepth 100000 in
theorem k_law_423 {p : Program} {l : Launch} {e : Env} {s : State} {m : MethodId} {below : List Frame} {meth : Method} {c : Code} {D : va_G} {A : Nat → Prop} {a : Nat → Nat} {k : Nat → ClassId} {b L : Nat} {xs : Nat → Int32} {mh : Int32} {rec18 : Int32 → (Nat → Int32) → (Nat → Int32) → Int32 → Int32 → (Nat → Int32) → (Nat → Int32) → (Nat → Int32) → (Nat → Int32) → Int32 → (Nat → Int32) → (Nat → Int32) → (Nat → Int64) → (Nat → Int64) → Nat → Nat → Int32 → Int32 → (Nat → Int32) → (Nat → Int32) → (Nat → Int32) → (Nat → Int32) → (Nat → Int32) → Int32 → (Nat → Int64) → (Nat → Int32) → (Nat → Int64) → (Nat → Int32) → Option (Int32)} (C : cxL D [(k 1, .int), (k 2, .int), (k 3, .int), (k 4, .int), (k 5, .boolean), (k 6, .int), (k 8, .int), (k 9, .int), (k 11, .long), (k 21, .int), (k 22, .int), (k 23, .int), (k 24, .boolean), (k 25, .boolean), (k 26, .long), (k 27, .int), (k 28, .long), (k 29, .int)] A p s m meth c b L xs) (hrec18 : H_law_18 p l e s m below meth c D A a k b L xs mh rec18) : H_law_423 p l e s m below meth c D A a k b L xs mh (J_law_423 xs L rec18) := by
  obtain ⟨⟨hx, hb, hr, hml, hown, hts, hX, hbl, hlk, hgv⟩, hK, hAA⟩ := id C
  have ht : ∀ w ∈ lw_g, w.before #[Value.ref b] s = true := fun w h => hts w (List.mem_filter.mp h).1
  have hA : ∀ q : Nat, s.heap.size ≤ q → A q := fun q h => (hAA q).mp h
  have hbA : ¬ A b := fun h => absurd ((hAA b).mpr h) (Nat.not_le.mpr hbl)
  intro x3 y0 y1 lab sg cc ci od sd go ta we oe fp ro sp qr qs mn mc ms ml mm mt mo mk mr my mb mf h H locs ls hP hD hS hl
  unfold J_law_423 at h
  obtain ⟨v_1, e_1, h⟩ := bd_some h
  refine go_Vi (r := v_1.1) (As := [.int y1, .int y0]) (rest := []) (wc := (wB a k lab sg cc ci od sd go ta we oe fp ro sp qr qs)) (wr := [((a 20), .inr (3, [.int mh, .int mn, .int mc, .ref (a 21), .ref (a 22), .ref (a 23), .ref (a 24), .ref (a 25), .int mk, .ref (a 26), .ref (a 27), .ref (a 28), .ref (a 29)])), ((a 21), .inl (k 21, 10, .inl ms)), ((a 22), .inl (k 22, 40, .inl ml)), ((a 23), .inl (k 23, 40, .inl mm)), ((a 24), .inl (k 24, 40, .inl mt)), ((a 25), .inl (k 25, 10, .inl mo)), ((a 26), .inl (k 26, 260, .inr (.inl mr))), ((a 27), .inl (k 27, 672, .inl my)), ((a 28), .inl (k 28, 40, .inr (.inl mb))), ((a 29), .inl (k 29, 4, .inl mf))]) (w1 := (wB a k v_1.2.1 v_1.2.2.1 v_1.2.2.2.1 v_1.2.2.2.2.1 v_1.2.2.2.2.2.1 v_1.2.2.2.2.2.2.1 go ta v_1.2.2.2.2.2.2.2 oe fp ro sp qr qs)) (w2 := (wX a k v_1.2.1 v_1.2.2.1 v_1.2.2.2.1 v_1.2.2.2.2.1 v_1.2.2.2.2.2.1 v_1.2.2.2.2.2.2.1 go ta v_1.2.2.2.2.2.2.2 oe fp ro sp qr qs mh mn mc ms ml mm mt mo mk mr my mb mf)) (tc := [(k 1, .int), (k 2, .int), (k 3, .int), (k 4, .int), (k 5, .boolean), (k 6, .int), (k 8, .int), (k 9, .int), (k 11, .long)]) hx hb hml hown ht (c_B_resolve l D a k H.size y1 y0 lab sg cc ci od sd go ta we oe fp ro sp qr qs v_1 e_1) g_law_59 ⟨rfl, rfl⟩ (n := 2) (by decide +kernel) ⟨(Nat.le_of_ble_eq_true rfl), (Nat.le_of_ble_eq_true rfl)⟩ hP hD hK hS hA ⟨Nat.le_of_ble_eq_true rfl, Nat.le_of_ble_eq_true rfl⟩ [0, 1, 2, 3, 4, 5, 6, 7, 8, 9, 10, 11, 12] [13, 14, 15, 16, 17, 18, 19, 20, 21, 22] [0, 1, 2, 3, 4, 5, 6, 7, 8] [10, 11, 12, 13, 14, 15, 16, 17, 18, 19, 20, 21, 22, 0, 1, 2, 3, 4, 5, 6, 7, 8, 9] rfl rfl rfl rfl (by decide) (by decide) (by decide) rfl (by decide) 0 rfl rfl rfl rfl rfl hl.1 (Nat.le_of_ble_eq_true rfl) d_law_423 (fun H locs hP hD hS => ?_)
  refine lv_aload_n hx hb d_law_426 rfl (lv_at hl 2 rfl) ?_
  refine lv_aload_n hx hb d_law_427 rfl (lv_at hl 0 rfl) ?_
  refine lv_iload_n hx hb d_law_428 rfl (lv_at hl 3 rfl) ?_
  refine lv_iconst (v := 1) hx hb d_law_429 (by decide) ?_
  refine lv_iadd hx hb d_law_430 ?_
  obtain ⟨g_2, h⟩ := gd_some h
  refine va_sld hx hb hX hbl hbA hS (inb_in g_2) d_law_431 ?_
  refine lv_aload_n hx hb d_law_432 rfl (lv_at hl 0 rfl) ?_
  refine lv_iload_n hx hb d_law_433 rfl (lv_at hl 3 rfl) ?_
  refine lv_iconst (v := 2) hx hb d_law_434 (by decide) ?_
  refine lv_iadd hx hb d_law_435 ?_
  obtain ⟨g_3, h⟩ := gd_some h
  refine va_sld hx hb hX hbl hbA hS (inb_in g_3) d_law_436 ?_
  refine lv_if_eq (tgt := 444) hx hb d_law_437 (by decide) (fun c_4 => ?_) (fun c_4 => ?_)
  · have h := ite_T c_4 h
    refine lv_iconst (v := 0) hx hb d_law_444 (by decide) ?_
    exact (k_law_445 C hrec18) _ _ _ _ _ _ _ _ _ _ _ _ _ _ _ _ _ _ _ _ _ _ _ _ _ _ _ _ _ _ _ h _ _ _ hP hD hS (lv_sub hl [0, 1, 2, 3] rfl)
  · have h := ite_F c_4 h
    refine lv_iconst (v := 1) hx hb d_law_440 (by decide) ?_
    refine lv_goto (tgt := 445) hx hb d_law_441 (by decide) ?_
    exact (k_law_445 C hrec18) _ _ _ _ _ _ _ _ _ _ _ _ _ _ _ _ _ _ _ _ _ _ _ _ _ _ _ _ _ _ _ h _ _ _ hP hD hS (lv_sub hl [0, 1, 2, 3] rfl)
set_option maxHeartbeats 40000000 in
set_option maxRecDepth 100000 in
theorem k_law_18 {p : Program} {l : Launch} {e : Env} {s : State} {m : MethodId} {below : List Frame} {meth : Method} {c : Code} {D : va_G} {A : Nat → Prop} {a : Nat → Nat} {k : Nat → ClassId} {b L : Nat} {xs : Nat → Int32} {mh : Int32} {rec18 : Int32 → (Nat → Int32) → (Nat → Int32) → Int32 → Int32 → (Nat → Int32) → (Nat → Int32) → (Nat → Int32) → (Nat → Int32) → Int32 → (Nat → Int32) → (Nat → Int32) → (Nat → Int64) → (Nat → Int64) → Nat → Nat → Int32 → Int32 → (Nat → Int32) → (Nat → Int32) → (Nat → Int32) → (Nat → Int32) → (Nat → Int32) → Int32 → (Nat → Int64) → (Nat → Int32) → (Nat → Int64) → (Nat → Int32) → Option (Int32)} (C : cxL D [(k 1, .int), (k 2, .int), (k 3, .int), (k 4, .int), (k 5, .boolean), (k 6, .int), (k 8, .int), (k 9, .int), (k 11, .long), (k 21, .int), (k 22, .int), (k 23, .int), (k 24, .boolean), (k 25, .boolean), (k 26, .long), (k 27, .int), (k 28, .long), (k 29, .int)] A p s m meth c b L xs) (hrec18 : H_law_18 p l e s m below meth c D A a k b L xs mh rec18) : H_law_18 p l e s m below meth c D A a k b L xs mh (J_law_18 xs L rec18) := by
  obtain ⟨⟨hx, hb, hr, hml, hown, hts, hX, hbl, hlk, hgv⟩, hK, hAA⟩ := id C
  have ht : ∀ w ∈ lw_g, w.before #[Value.ref b] s = true := fun w h => hts w (List.mem_filter.mp h).1
  have hA : ∀ q : Nat, s.heap.size ≤ q → A q := fun q h => (hAA q).mp h
  have hbA : ¬ A b := fun h => absurd ((hAA b).mpr h) (Nat.not_le.mpr hbl)
  intro x3 lab sg cc ci od sd go ta we oe fp ro sp qr qs mn mc ms ml mm mt mo mk mr my mb mf h H locs ls hP hD hS hl
  unfold J_law_18 at h
  refine lv_iload_n hx hb d_law_18 rfl (lv_at hl 3 rfl) ?_
  refine lv_aload_n hx hb d_law_19 rfl (lv_at hl 0 rfl) ?_
  refine va_slen hx hb hX hbl hbA hS d_law_20 ?_
  refine lv_bipush (v := 6) hx hb d_law_21 (by decide) ?_
  refine lv_isub hx hb d_law_23 ?_
  refine lv_icmp_gt (tgt := 515) hx hb d_law_24 (by decide) (fun c_1 => ?_) (fun c_1 => ?_)
  · have h := ite_T c_1 h
    refine lv_iconst (v := 1) hx hb d_law_515 (by decide) ?_
    refine va_forget (fun q hq => (hAA _).mpr (hS.2.2 q hq)) ?_
    exact lw_ret hx hb hr hlk d_law_516
  · have h := ite_F c_1 h
    refine lv_aload_n hx hb d_law_27 rfl (lv_at hl 0 rfl) ?_
    refine lv_iload_n hx hb d_law_28 rfl (lv_at hl 3 rfl) ?_
    obtain ⟨g_2, h⟩ := gd_some h
    refine va_sld hx hb hX hbl hbA hS (inb_in g_2) d_law_29 ?_
    refine lv_bipush (v := 15) hx hb d_law_30 (by decide) ?_
    refine lv_iand hx hb d_law_32 ?_
    by_cases c_3 : ((xs x3.toNatClampNeg) &&& (15 : Int32)) = 0
    · have h := ite_T c_3 h
      refine lv_tableIn (tgt := 100) hx hb d_law_33 (by rw [c_3]; decide) (by rw [c_3]; decide) (by rw [c_3]; rfl) (by decide) ?_
      refine lv_aload_n hx hb d_law_100 rfl (lv_at hl 1 rfl) ?_
      refine lv_aload_n hx hb d_law_101 rfl (lv_at hl 0 rfl) ?_
      refine lv_iload_n hx hb d_law_102 rfl (lv_at hl 3 rfl) ?_
      refine lv_iconst (v := 1) hx hb d_law_103 (by decide) ?_
      refine lv_iadd hx hb d_law_104 ?_
      obtain ⟨g_4, h⟩ := gd_some h
      refine va_sld hx hb hX hbl hbA hS (inb_in g_4) d_law_105 ?_
      refine lv_aload_n hx hb d_law_106 rfl (lv_at hl 0 rfl) ?_
      refine lv_iload_n hx hb d_law_107 rfl (lv_at hl 3 rfl) ?_
      refine lv_iconst (v := 2) hx hb d_law_108 (by decide) ?_
      refine lv_iadd hx hb d_law_109 ?_
      obtain ⟨g_5, h⟩ := gd_some h
      refine va_sld hx hb hX hbl hbA hS (inb_in g_5) d_law_110 ?_
      refine lv_aload_n hx hb d_law_111 rfl (lv_at hl 0 rfl) ?_
      refine lv_iload_n hx hb d_law_112 rfl (lv_at hl 3 rfl) ?_
      refine lv_iconst (v := 3) hx hb d_law_113 (by decide) ?_
      refine lv_iadd hx hb d_law_114 ?_
      obtain ⟨g_6, h⟩ := gd_some h
      refine va_sld hx hb hX hbl hbA hS (inb_in g_6) d_law_115 ?_
      refine lv_aload_n hx hb d_law_116 rfl (lv_at hl 0 rfl) ?_
      refine lv_iload_n hx hb d_law_117 rfl (lv_at hl 3 rfl) ?_
      refine lv_iconst (v := 4) hx hb d_law_118 (by decide) ?_
      refine lv_iadd hx hb d_law_119 ?_
      obtain ⟨g_7, h⟩ := gd_some h
      refine va_sld hx hb hX hbl hbA hS (inb_in g_7) d_law_120 ?_
      refine lv_aload_n hx hb d_law_121 rfl (lv_at hl 0 rfl) ?_
      refine lv_iload_n hx hb d_law_122 rfl (lv_at hl 3 rfl) ?_
      refine lv_iconst (v := 5) hx hb d_law_123 (by decide) ?_
      refine lv_iadd hx hb d_law_124 ?_
      obtain ⟨g_8, h⟩ := gd_some h
      refine va_sld hx hb hX hbl hbA hS (inb_in g_8) d_law_125 ?_
      obtain ⟨v_9, e_9, h⟩ := bd_some h
      refine go_Vi (r := v_9.1) (As := [.int (xs (x3 + (1 : Int32)).toNatClampNeg), .int (xs (x3 + (2 : Int32)).toNatClampNeg), .int (xs (x3 + (3 : Int32)).toNatClampNeg), .int (xs (x3 + (4 : Int32)).toNatClampNeg), .int (xs (x3 + (5 : Int32)).toNatClampNeg)]) (rest := []) (wc := (wB a k lab sg cc ci od sd go ta we oe fp ro sp qr qs)) (wr := [((a 20), .inr (3, [.int mh, .int mn, .int mc, .ref (a 21), .ref (a 22), .ref (a 23), .ref (a 24), .ref (a 25), .int mk, .ref (a 26), .ref (a 27), .ref (a 28), .ref (a 29)])), ((a 21), .inl (k 21, 10, .inl ms)), ((a 22), .inl (k 22, 40, .inl ml)), ((a 23), .inl (k 23, 40, .inl mm)), ((a 24), .inl (k 24, 40, .inl mt)), ((a 25), .inl (k 25, 10, .inl mo)), ((a 26), .inl (k 26, 260, .inr (.inl mr))), ((a 27), .inl (k 27, 672, .inl my)), ((a 28), .inl (k 28, 40, .inr (.inl mb))), ((a 29), .inl (k 29, 4, .inl mf))]) (w1 := (wB a k v_9.2.1 v_9.2.2.1 v_9.2.2.2.1 ci v_9.2.2.2.2.1 sd go ta v_9.2.2.2.2.2 oe fp ro sp qr qs)) (w2 := (wX a k v_9.2.1 v_9.2.2.1 v_9.2.2.2.1 ci v_9.2.2.2.2.1 sd go ta v_9.2.2.2.2.2 oe fp ro sp qr qs mh mn mc ms ml mm mt mo mk mr my mb mf)) (tc := [(k 1, .int), (k 2, .int), (k 3, .int), (k 4, .int), (k 5, .boolean), (k 6, .int), (k 8, .int), (k 9, .int), (k 11, .long)]) hx hb hml hown ht (c_B_crossing l D a k H.size (xs (x3 + (1 : Int32)).toNatClampNeg) (xs (x3 + (2 : Int32)).toNatClampNeg) (xs (x3 + (3 : Int32)).toNatClampNeg) (xs (x3 + (4 : Int32)).toNatClampNeg) (xs (x3 + (5 : Int32)).toNatClampNeg) lab sg cc ci od sd go ta we oe fp ro sp qr qs v_9 e_9) g_law_13 ⟨rfl, rfl⟩ (n := 5) (by decide +kernel) ⟨(Nat.le_of_ble_eq_true rfl), (Nat.le_of_ble_eq_true rfl)⟩ hP hD hK hS hA ⟨Nat.le_of_ble_eq_true rfl, Nat.le_of_ble_eq_true rfl⟩ [0, 1, 2, 3, 4, 5, 6, 7, 8, 9, 10, 11, 12] [13, 14, 15, 16, 17, 18, 19, 20, 21, 22] [0, 1, 2, 3, 4, 5, 6, 7, 8] [10, 11, 12, 13, 14, 15, 16, 17, 18, 19, 20, 21, 22, 0, 1, 2, 3, 4, 5, 6, 7, 8, 9] rfl rfl rfl rfl (by decide) (by decide) (by decide) rfl (by decide) 0 rfl rfl rfl rfl rfl hl.1 (Nat.le_of_ble_eq_true rfl) d_law_126 (fun H locs hP hD hS => ?_)
      refine lv_aload_n hx hb d_law_129 rfl (lv_at hl 2 rfl) ?_
      refine lv_aload_n hx hb d_law_130 rfl (lv_at hl 0 rfl) ?_
      refine lv_iload_n hx hb d_law_131 rfl (lv_at hl 3 rfl) ?_
      refine lv_iconst (v := 1) hx hb d_law_132 (by decide) ?_
      refine lv_iadd hx hb d_law_133 ?_
      obtain ⟨g_10, h⟩ := gd_some h
      refine va_sld hx hb hX hbl hbA hS (inb_in g_10) d_law_134 ?_
      refine lv_aload_n hx hb d_law_135 rfl (lv_at hl 0 rfl) ?_
      refine lv_iload_n hx hb d_law_136 rfl (lv_at hl 3 rfl) ?_
      refine lv_iconst (v := 2) hx hb d_law_137 (by decide) ?_
      refine lv_iadd hx hb d_law_138 ?_
      obtain ⟨g_11, h⟩ := gd_some h
      refine va_sld hx hb hX hbl hbA hS (inb_in g_11) d_law_139 ?_
      refine lv_aload_n hx hb d_law_140 rfl (lv_at hl 0 rfl) ?_
      refine lv_iload_n hx hb d_law_141 rfl (lv_at hl 3 rfl) ?_
      refine lv_iconst (v := 3) hx hb d_law_142 (by decide) ?_
      refine lv_iadd hx hb d_law_143 ?_
      obtain ⟨g_12, h⟩ := gd_some h
      refine va_sld hx hb hX hbl hbA hS (inb_in g_12) d_law_144 ?_
      refine lv_aload_n hx hb d_law_145 rfl (lv_at hl 0 rfl) ?_
      refine lv_iload_n hx hb d_law_146 rfl (lv_at hl 3 rfl) ?_
      refine lv_iconst (v := 4) hx hb d_law_147 (by decide) ?_
      refine lv_iadd hx hb d_law_148 ?_
      obtain ⟨g_13, h⟩ := gd_some h
      refine va_sld hx hb hX hbl hbA hS (inb_in g_13) d_law_149 ?_
      refine lv_aload_n hx hb d_law_150 rfl (lv_at hl 0 rfl) ?_
      refine lv_iload_n hx hb d_law_151 rfl (lv_at hl 3 rfl) ?_
      refine lv_iconst (v := 5) hx hb d_law_152 (by decide) ?_
      refine lv_iadd hx hb d_law_153 ?_
      obtain ⟨g_14, h⟩ := gd_some h
      refine va_sld hx hb hX hbl hbA hS (inb_in g_14) d_law_154 ?_
      obtain ⟨v_15, e_15, h⟩ := bd_some h
      refine go_Vi (r := v_15.1) (As := [.int (xs (x3 + (1 : Int32)).toNatClampNeg), .int (xs (x3 + (2 : Int32)).toNatClampNeg), .int (xs (x3 + (3 : Int32)).toNatClampNeg), .int (xs (x3 + (4 : Int32)).toNatClampNeg), .int (xs (x3 + (5 : Int32)).toNatClampNeg)]) (rest := [.int v_9.1]) (wc := (wM a k mh mn mc ms ml mm mt mo mk mr my mb mf)) (wr := [((a 0), .inr (0, [.ref (a 1), .ref (a 2), .int v_9.2.2.2.1, .int ci, .ref (a 3), .ref (a 4), .ref (a 5), .ref (a 6), .ref (a 7), .ref (a 10), .int v_9.2.2.2.2.2])), ((a 1), .inl (k 1, 40, .inl v_9.2.1)), ((a 2), .inl (k 2, 10, .inl v_9.2.2.1)), ((a 3), .inl (k 3, 10, .inl v_9.2.2.2.2.1)), ((a 4), .inl (k 4, 100, .inl sd)), ((a 5), .inl (k 5, 10, .inl go)), ((a 6), .inl (k 6, 330, .inl ta)), ((a 7), .inr (1, [.ref (a 8), .ref (a 9)])), ((a 8), .inl (k 8, 40, .inl oe)), ((a 9), .inl (k 9, 100, .inl fp)), ((a 10), .inr (2, [.ref qr, .ref qs])), (qr, .inl (k 11, 133, .inr (.inl ro))), (qs, .inl (k 11, 133, .inr (.inl sp)))]) (w1 := (wM a k mh v_15.2.1 mc v_15.2.2.1 v_15.2.2.2.1 mm mt mo v_15.2.2.2.2 mr my mb mf)) (w2 := (wX a k v_9.2.1 v_9.2.2.1 v_9.2.2.2.1 ci v_9.2.2.2.2.1 sd go ta v_9.2.2.2.2.2 oe fp ro sp qr qs mh v_15.2.1 mc v_15.2.2.1 v_15.2.2.2.1 mm mt mo v_15.2.2.2.2 mr my mb mf)) (tc := [(k 21, .int), (k 22, .int), (k 23, .int), (k 24, .boolean), (k 25, .boolean), (k 26, .long), (k 27, .int), (k 28, .long), (k 29, .int)]) hx hb hml hown ht (c_M_crossing l D a k H.size (xs (x3 + (1 : Int32)).toNatClampNeg) (xs (x3 + (2 : Int32)).toNatClampNeg) (xs (x3 + (3 : Int32)).toNatClampNeg) (xs (x3 + (4 : Int32)).toNatClampNeg) (xs (x3 + (5 : Int32)).toNatClampNeg) mh mn mc ms ml mm mt mo mk mr my mb mf v_15 e_15) g_law_17 ⟨rfl, rfl⟩ (n := 5) (by decide +kernel) ⟨(Nat.le_of_ble_eq_true rfl), (Nat.le_of_ble_eq_true rfl)⟩ hP hD hK hS hA ⟨Nat.le_of_ble_eq_true rfl, Nat.le_of_ble_eq_true rfl⟩ [13, 14, 15, 16, 17, 18, 19, 20, 21, 22] [0, 1, 2, 3, 4, 5, 6, 7, 8, 9, 10, 11, 12] [9, 10, 11, 12, 13, 14, 15, 16, 17] [0, 1, 2, 3, 4, 5, 6, 7, 8, 9, 10, 11, 12, 13, 14, 15, 16, 17, 18, 19, 20, 21, 22] rfl rfl rfl rfl (by decide) (by decide) (by decide) rfl (by decide) 0 rfl rfl rfl rfl rfl hl.1 (Nat.le_of_ble_eq_true rfl) d_law_155 (fun H locs hP hD hS => ?_)
      refine lv_icmp_eq (tgt := 509) hx hb d_law_158 (by decide) (fun c_16 => ?_) (fun c_16 => ?_)
      · have h := ite_T c_16 h
        refine lv_iinc (v := x3 + 6) (lv' := [(3, .int (x3 + 6)), (0, .ref b), (1, .ref (a 0)), (2, .ref (a 20))]) hx hb d_law_509 hl (k := 3) rfl rfl (by decide) rfl (fun ls hl => ?_)
        refine lv_goto (tgt := 18) hx hb d_law_512 (by decide) ?_
        exact hrec18 _ _ _ _ _ _ _ _ _ _ _ _ _ _ _ _ _ _ _ _ _ _ _ _ _ _ _ _ h _ _ _ hP hD hS (lv_sub hl [1, 2, 3, 0] rfl)
      · have h := ite_F c_16 h
        refine lv_iconst (v := 0) hx hb d_law_161 (by decide) ?_
        exact absurd h (by decide)
    have h := ite_F c_3 h
    by_cases c_17 : ((xs x3.toNatClampNeg) &&& (15 : Int32)) = 1
    · have h := ite_T c_17 h
      refine lv_tableIn (tgt := 163) hx hb d_law_33 (by rw [c_17]; decide) (by rw [c_17]; decide) (by rw [c_17]; rfl) (by decide) ?_
      refine lv_aload_n hx hb d_law_163 rfl (lv_at hl 1 rfl) ?_
      refine lv_aload_n hx hb d_law_164 rfl (lv_at hl 0 rfl) ?_
      refine lv_iload_n hx hb d_law_165 rfl (lv_at hl 3 rfl) ?_
      refine lv_iconst (v := 1) hx hb d_law_166 (by decide) ?_
      refine lv_iadd hx hb d_law_167 ?_
      obtain ⟨g_18, h⟩ := gd_some h
      refine va_sld hx hb hX hbl hbA hS (inb_in g_18) d_law_168 ?_
      obtain ⟨v_19, e_19, h⟩ := bd_some h
      refine go_Vi (r := v_19.1) (As := [.int (xs (x3 + (1 : Int32)).toNatClampNeg)]) (rest := []) (wc := (wB a k lab sg cc ci od sd go ta we oe fp ro sp qr qs)) (wr := [((a 20), .inr (3, [.int mh, .int mn, .int mc, .ref (a 21), .ref (a 22), .ref (a 23), .ref (a 24), .ref (a 25), .int mk, .ref (a 26), .ref (a 27), .ref (a 28), .ref (a 29)])), ((a 21), .inl (k 21, 10, .inl ms)), ((a 22), .inl (k 22, 40, .inl ml)), ((a 23), .inl (k 23, 40, .inl mm)), ((a 24), .inl (k 24, 40, .inl mt)), ((a 25), .inl (k 25, 10, .inl mo)), ((a 26), .inl (k 26, 260, .inr (.inl mr))), ((a 27), .inl (k 27, 672, .inl my)), ((a 28), .inl (k 28, 40, .inr (.inl mb))), ((a 29), .inl (k 29, 4, .inl mf))]) (w1 := (wB a k lab sg cc v_19.2.1 od sd go ta v_19.2.2 oe fp ro sp qr qs)) (w2 := (wX a k lab sg cc v_19.2.1 od sd go ta v_19.2.2 oe fp ro sp qr qs mh mn mc ms ml mm mt mo mk mr my mb mf)) (tc := [(k 1, .int), (k 2, .int), (k 3, .int), (k 4, .int), (k 5, .boolean), (k 6, .int), (k 8, .int), (k 9, .int), (k 11, .long)]) hx hb hml hown ht (c_B_circles l D a k H.size (xs (x3 + (1 : Int32)).toNatClampNeg) lab sg cc ci od sd go ta we oe fp ro sp qr qs v_19 e_19) g_law_18 ⟨rfl, rfl⟩ (n := 1) (by decide +kernel) ⟨(Nat.le_of_ble_eq_true rfl), (Nat.le_of_ble_eq_true rfl)⟩ hP hD hK hS hA ⟨Nat.le_of_ble_eq_true rfl, Nat.le_of_ble_eq_true rfl⟩ [0, 1, 2, 3, 4, 5, 6, 7, 8, 9, 10, 11, 12] [13, 14, 15, 16, 17, 18, 19, 20, 21, 22] [0, 1, 2, 3, 4, 5, 6, 7, 8] [10, 11, 12, 13, 14, 15, 16, 17, 18, 19, 20, 21, 22, 0, 1, 2, 3, 4, 5, 6, 7, 8, 9] rfl rfl rfl rfl (by decide) (by decide) (by decide) rfl (by decide) 0 rfl rfl rfl rfl rfl hl.1 (Nat.le_of_ble_eq_true rfl) d_law_169 (fun H locs hP hD hS => ?_)
      refine lv_aload_n hx hb d_law_172 rfl (lv_at hl 2 rfl) ?_
      refine lv_aload_n hx hb d_law_173 rfl (lv_at hl 0 rfl) ?_
      refine lv_iload_n hx hb d_law_174 rfl (lv_at hl 3 rfl) ?_
      refine lv_iconst (v := 1) hx hb d_law_175 (by decide) ?_
      refine lv_iadd hx hb d_law_176 ?_
      obtain ⟨g_20, h⟩ := gd_some h
      refine va_sld hx hb hX hbl hbA hS (inb_in g_20) d_law_177 ?_
      obtain ⟨v_21, e_21, h⟩ := bd_some h
      refine go_Vi (r := v_21.1) (As := [.int (xs (x3 + (1 : Int32)).toNatClampNeg)]) (rest := [.int v_19.1]) (wc := (wM a k mh mn mc ms ml mm mt mo mk mr my mb mf)) (wr := [((a 0), .inr (0, [.ref (a 1), .ref (a 2), .int cc, .int v_19.2.1, .ref (a 3), .ref (a 4), .ref (a 5), .ref (a 6), .ref (a 7), .ref (a 10), .int v_19.2.2])), ((a 1), .inl (k 1, 40, .inl lab)), ((a 2), .inl (k 2, 10, .inl sg)), ((a 3), .inl (k 3, 10, .inl od)), ((a 4), .inl (k 4, 100, .inl sd)), ((a 5), .inl (k 5, 10, .inl go)), ((a 6), .inl (k 6, 330, .inl ta)), ((a 7), .inr (1, [.ref (a 8), .ref (a 9)])), ((a 8), .inl (k 8, 40, .inl oe)), ((a 9), .inl (k 9, 100, .inl fp)), ((a 10), .inr (2, [.ref qr, .ref qs])), (qr, .inl (k 11, 133, .inr (.inl ro))), (qs, .inl (k 11, 133, .inr (.inl sp)))]) (w1 := (wM a k mh mn v_21.2.1 ms ml mm mt mo v_21.2.2 mr my mb mf)) (w2 := (wX a k lab sg cc v_19.2.1 od sd go ta v_19.2.2 oe fp ro sp qr qs mh mn v_21.2.1 ms ml mm mt mo v_21.2.2 mr my mb mf)) (tc := [(k 21, .int), (k 22, .int), (k 23, .int), (k 24, .boolean), (k 25, .boolean), (k 26, .long), (k 27, .int), (k 28, .long), (k 29, .int)]) hx hb hml hown ht (c_M_circles l D a k H.size (xs (x3 + (1 : Int32)).toNatClampNeg) mh mn mc ms ml mm mt mo mk mr my mb mf v_21 e_21) g_law_22 ⟨rfl, rfl⟩ (n := 1) (by decide +kernel) ⟨(Nat.le_of_ble_eq_true rfl), (Nat.le_of_ble_eq_true rfl)⟩ hP hD hK hS hA ⟨Nat.le_of_ble_eq_true rfl, Nat.le_of_ble_eq_true rfl⟩ [13, 14, 15, 16, 17, 18, 19, 20, 21, 22] [0, 1, 2, 3, 4, 5, 6, 7, 8, 9, 10, 11, 12] [9, 10, 11, 12, 13, 14, 15, 16, 17] [0, 1, 2, 3, 4, 5, 6, 7, 8, 9, 10, 11, 12, 13, 14, 15, 16, 17, 18, 19, 20, 21, 22] rfl rfl rfl rfl (by decide) (by decide) (by decide) rfl (by decide) 0 rfl rfl rfl rfl rfl hl.1 (Nat.le_of_ble_eq_true rfl) d_law_178 (fun H locs hP hD hS => ?_)
      refine lv_icmp_eq (tgt := 509) hx hb d_law_181 (by decide) (fun c_22 => ?_) (fun c_22 => ?_)
      · have h := ite_T c_22 h
        refine lv_iinc (v := x3 + 6) (lv' := [(3, .int (x3 + 6)), (0, .ref b), (1, .ref (a 0)), (2, .ref (a 20))]) hx hb d_law_509 hl (k := 3) rfl rfl (by decide) rfl (fun ls hl => ?_)
        refine lv_goto (tgt := 18) hx hb d_law_512 (by decide) ?_
        exact hrec18 _ _ _ _ _ _ _ _ _ _ _ _ _ _ _ _ _ _ _ _ _ _ _ _ _ _ _ _ h _ _ _ hP hD hS (lv_sub hl [1, 2, 3, 0] rfl)
      · have h := ite_F c_22 h
        refine lv_iconst (v := 0) hx hb d_law_184 (by decide) ?_
        exact absurd h (by decide)
    have h := ite_F c_17 h
    by_cases c_23 : ((xs x3.toNatClampNeg) &&& (15 : Int32)) = 2
    · have h := ite_T c_23 h
      refine lv_tableIn (tgt := 186) hx hb d_law_33 (by rw [c_23]; decide) (by rw [c_23]; decide) (by rw [c_23]; rfl) (by decide) ?_
      refine lv_aload_n hx hb d_law_186 rfl (lv_at hl 1 rfl) ?_
      obtain ⟨v_24, e_24, h⟩ := bd_some h
      refine go_Vi (r := v_24.1) (As := []) (rest := []) (wc := (wB a k lab sg cc ci od sd go ta we oe fp ro sp qr qs)) (wr := [((a 20), .inr (3, [.int mh, .int mn, .int mc, .ref (a 21), .ref (a 22), .ref (a 23), .ref (a 24), .ref (a 25), .int mk, .ref (a 26), .ref (a 27), .ref (a 28), .ref (a 29)])), ((a 21), .inl (k 21, 10, .inl ms)), ((a 22), .inl (k 22, 40, .inl ml)), ((a 23), .inl (k 23, 40, .inl mm)), ((a 24), .inl (k 24, 40, .inl mt)), ((a 25), .inl (k 25, 10, .inl mo)), ((a 26), .inl (k 26, 260, .inr (.inl mr))), ((a 27), .inl (k 27, 672, .inl my)), ((a 28), .inl (k 28, 40, .inr (.inl mb))), ((a 29), .inl (k 29, 4, .inl mf))]) (w1 := (wB a k lab sg v_24.2.1 v_24.2.2.1 v_24.2.2.2.1 sd go ta v_24.2.2.2.2 oe fp ro sp qr qs)) (w2 := (wX a k lab sg v_24.2.1 v_24.2.2.1 v_24.2.2.2.1 sd go ta v_24.2.2.2.2 oe fp ro sp qr qs mh mn mc ms ml mm mt mo mk mr my mb mf)) (tc := [(k 1, .int), (k 2, .int), (k 3, .int), (k 4, .int), (k 5, .boolean), (k 6, .int), (k 8, .int), (k 9, .int), (k 11, .long)]) hx hb hml hown ht (c_B_clear l D a k H.size lab sg cc ci od sd go ta we oe fp ro sp qr qs v_24 e_24) g_law_23 ⟨rfl, rfl⟩ (n := 0) (by decide +kernel) ⟨(Nat.le_of_ble_eq_true rfl), (Nat.le_of_ble_eq_true rfl)⟩ hP hD hK hS hA ⟨Nat.le_of_ble_eq_true rfl, Nat.le_of_ble_eq_true rfl⟩ [0, 1, 2, 3, 4, 5, 6, 7, 8, 9, 10, 11, 12] [13, 14, 15, 16, 17, 18, 19, 20, 21, 22] [0, 1, 2, 3, 4, 5, 6, 7, 8] [10, 11, 12, 13, 14, 15, 16, 17, 18, 19, 20, 21, 22, 0, 1, 2, 3, 4, 5, 6, 7, 8, 9] rfl rfl rfl rfl (by decide) (by decide) (by decide) rfl (by decide) 0 rfl rfl rfl rfl rfl hl.1 (Nat.le_of_ble_eq_true rfl) d_law_187 (fun H locs hP hD hS => ?_)
      refine lv_aload_n hx hb d_law_190 rfl (lv_at hl 2 rfl) ?_
      obtain ⟨v_25, e_25, h⟩ := bd_some h
      refine go_Vi (r := v_25.1) (As := []) (rest := [.int v_24.1]) (wc := (wM a k mh mn mc ms ml mm mt mo mk mr my mb mf)) (wr := [((a 0), .inr (0, [.ref (a 1), .ref (a 2), .int v_24.2.1, .int v_24.2.2.1, .ref (a 3), .ref (a 4), .ref (a 5), .ref (a 6), .ref (a 7), .ref (a 10), .int v_24.2.2.2.2])), ((a 1), .inl (k 1, 40, .inl lab)), ((a 2), .inl (k 2, 10, .inl sg)), ((a 3), .inl (k 3, 10, .inl v_24.2.2.2.1)), ((a 4), .inl (k 4, 100, .inl sd)), ((a 5), .inl (k 5, 10, .inl go)), ((a 6), .inl (k 6, 330, .inl ta)), ((a 7), .inr (1, [.ref (a 8), .ref (a 9)])), ((a 8), .inl (k 8, 40, .inl oe)), ((a 9), .inl (k 9, 100, .inl fp)), ((a 10), .inr (2, [.ref qr, .ref qs])), (qr, .inl (k 11, 133, .inr (.inl ro))), (qs, .inl (k 11, 133, .inr (.inl sp)))]) (w1 := (wM a k mh v_25.2.1 v_25.2.2.1 ms ml mm mt mo v_25.2.2.2 mr my mb mf)) (w2 := (wX a k lab sg v_24.2.1 v_24.2.2.1 v_24.2.2.2.1 sd go ta v_24.2.2.2.2 oe fp ro sp qr qs mh v_25.2.1 v_25.2.2.1 ms ml mm mt mo v_25.2.2.2 mr my mb mf)) (tc := [(k 21, .int), (k 22, .int), (k 23, .int), (k 24, .boolean), (k 25, .boolean), (k 26, .long), (k 27, .int), (k 28, .long), (k 29, .int)]) hx hb hml hown ht (c_M_clear l D a k H.size mh mn mc ms ml mm mt mo mk mr my mb mf v_25 e_25) g_law_27 ⟨rfl, rfl⟩ (n := 0) (by decide +kernel) ⟨(Nat.le_of_ble_eq_true rfl), (Nat.le_of_ble_eq_true rfl)⟩ hP hD hK hS hA ⟨Nat.le_of_ble_eq_true rfl, Nat.le_of_ble_eq_true rfl⟩ [13, 14, 15, 16, 17, 18, 19, 20, 21, 22] [0, 1, 2, 3, 4, 5, 6, 7, 8, 9, 10, 11, 12] [9, 10, 11, 12, 13, 14, 15, 16, 17] [0, 1, 2, 3, 4, 5, 6, 7, 8, 9, 10, 11, 12, 13, 14, 15, 16, 17, 18, 19, 20, 21, 22] rfl rfl rfl rfl (by decide) (by decide) (by decide) rfl (by decide) 0 rfl rfl rfl rfl rfl hl.1 (Nat.le_of_ble_eq_true rfl) d_law_191 (fun H locs hP hD hS => ?_)
      refine lv_icmp_eq (tgt := 509) hx hb d_law_194 (by decide) (fun c_26 => ?_) (fun c_26 => ?_)
      · have h := ite_T c_26 h
        refine lv_iinc (v := x3 + 6) (lv' := [(3, .int (x3 + 6)), (0, .ref b), (1, .ref (a 0)), (2, .ref (a 20))]) hx hb d_law_509 hl (k := 3) rfl rfl (by decide) rfl (fun ls hl => ?_)
        refine lv_goto (tgt := 18) hx hb d_law_512 (by decide) ?_
        exact hrec18 _ _ _ _ _ _ _ _ _ _ _ _ _ _ _ _ _ _ _ _ _ _ _ _ _ _ _ _ h _ _ _ hP hD hS (lv_sub hl [1, 2, 3, 0] rfl)
      · have h := ite_F c_26 h
        refine lv_iconst (v := 0) hx hb d_law_197 (by decide) ?_
        exact absurd h (by decide)
    have h := ite_F c_23 h
    by_cases c_27 : ((xs x3.toNatClampNeg) &&& (15 : Int32)) = 3
    · have h := ite_T c_27 h
      refine lv_tableIn (tgt := 199) hx hb d_law_33 (by rw [c_27]; decide) (by rw [c_27]; decide) (by rw [c_27]; rfl) (by decide) ?_
      refine lv_aload_n hx hb d_law_199 rfl (lv_at hl 1 rfl) ?_
      obtain ⟨v_28, e_28, h⟩ := bd_some h
      refine go_Vi (r := v_28.1) (As := []) (rest := []) (wc := (wB a k lab sg cc ci od sd go ta we oe fp ro sp qr qs)) (wr := [((a 20), .inr (3, [.int mh, .int mn, .int mc, .ref (a 21), .ref (a 22), .ref (a 23), .ref (a 24), .ref (a 25), .int mk, .ref (a 26), .ref (a 27), .ref (a 28), .ref (a 29)])), ((a 21), .inl (k 21, 10, .inl ms)), ((a 22), .inl (k 22, 40, .inl ml)), ((a 23), .inl (k 23, 40, .inl mm)), ((a 24), .inl (k 24, 40, .inl mt)), ((a 25), .inl (k 25, 10, .inl mo)), ((a 26), .inl (k 26, 260, .inr (.inl mr))), ((a 27), .inl (k 27, 672, .inl my)), ((a 28), .inl (k 28, 40, .inr (.inl mb))), ((a 29), .inl (k 29, 4, .inl mf))]) (w1 := (wB a k lab sg cc ci od v_28.2 go ta we oe fp ro sp qr qs)) (w2 := (wX a k lab sg cc ci od v_28.2 go ta we oe fp ro sp qr qs mh mn mc ms ml mm mt mo mk mr my mb mf)) (tc := [(k 1, .int), (k 2, .int), (k 3, .int), (k 4, .int), (k 5, .boolean), (k 6, .int), (k 8, .int), (k 9, .int), (k 11, .long)]) hx hb hml hown ht (c_B_fault l D a k H.size lab sg cc ci od sd go ta we oe fp ro sp qr qs v_28 e_28) g_law_28 ⟨rfl, rfl⟩ (n := 0) (by decide +kernel) ⟨(Nat.le_of_ble_eq_true rfl), (Nat.le_of_ble_eq_true rfl)⟩ hP hD hK hS hA ⟨Nat.le_of_ble_eq_true rfl, Nat.le_of_ble_eq_true rfl⟩ [0, 1, 2, 3, 4, 5, 6, 7, 8, 9, 10, 11, 12] [13, 14, 15, 16, 17, 18, 19, 20, 21, 22] [0, 1, 2, 3, 4, 5, 6, 7, 8] [10, 11, 12, 13, 14, 15, 16, 17, 18, 19, 20, 21, 22, 0, 1, 2, 3, 4, 5, 6, 7, 8, 9] rfl rfl rfl rfl (by decide) (by decide) (by decide) rfl (by decide) 0 rfl rfl rfl rfl rfl hl.1 (Nat.le_of_ble_eq_true rfl) d_law_200 (fun H locs hP hD hS => ?_)
      refine lv_aload_n hx hb d_law_203 rfl (lv_at hl 2 rfl) ?_
      obtain ⟨v_29, e_29, h⟩ := bd_some h
      refine go_Vi (r := v_29) (As := []) (rest := [.int v_28.1]) (wc := (wM a k mh mn mc ms ml mm mt mo mk mr my mb mf)) (wr := [((a 0), .inr (0, [.ref (a 1), .ref (a 2), .int cc, .int ci, .ref (a 3), .ref (a 4), .ref (a 5), .ref (a 6), .ref (a 7), .ref (a 10), .int we])), ((a 1), .inl (k 1, 40, .inl lab)), ((a 2), .inl (k 2, 10, .inl sg)), ((a 3), .inl (k 3, 10, .inl od)), ((a 4), .inl (k 4, 100, .inl v_28.2)), ((a 5), .inl (k 5, 10, .inl go)), ((a 6), .inl (k 6, 330, .inl ta)), ((a 7), .inr (1, [.ref (a 8), .ref (a 9)])), ((a 8), .inl (k 8, 40, .inl oe)), ((a 9), .inl (k 9, 100, .inl fp)), ((a 10), .inr (2, [.ref qr, .ref qs])), (qr, .inl (k 11, 133, .inr (.inl ro))), (qs, .inl (k 11, 133, .inr (.inl sp)))]) (w1 := (wM a k mh mn mc ms ml mm mt mo mk mr my mb mf)) (w2 := (wX a k lab sg cc ci od v_28.2 go ta we oe fp ro sp qr qs mh mn mc ms ml mm mt mo mk mr my mb mf)) (tc := [(k 21, .int), (k 22, .int), (k 23, .int), (k 24, .boolean), (k 25, .boolean), (k 26, .long), (k 27, .int), (k 28, .long), (k 29, .int)]) hx hb hml hown ht (c_M_fault l D a k H.size mh mn mc ms ml mm mt mo mk mr my mb mf v_29 e_29) g_law_31 ⟨rfl, rfl⟩ (n := 0) (by decide +kernel) ⟨(Nat.le_of_ble_eq_true rfl), (Nat.le_of_ble_eq_true rfl)⟩ hP hD hK hS hA ⟨Nat.le_of_ble_eq_true rfl, Nat.le_of_ble_eq_true rfl⟩ [13, 14, 15, 16, 17, 18, 19, 20, 21, 22] [0, 1, 2, 3, 4, 5, 6, 7, 8, 9, 10, 11, 12] [9, 10, 11, 12, 13, 14, 15, 16, 17] [0, 1, 2, 3, 4, 5, 6, 7, 8, 9, 10, 11, 12, 13, 14, 15, 16, 17, 18, 19, 20, 21, 22] rfl rfl rfl rfl (by decide) (by decide) (by decide) rfl (by decide) 0 rfl rfl rfl rfl rfl hl.1 (Nat.le_of_ble_eq_true rfl) d_law_204 (fun H locs hP hD hS => ?_)
      refine lv_icmp_eq (tgt := 509) hx hb d_law_207 (by decide) (fun c_30 => ?_) (fun c_30 => ?_)
      · have h := ite_T c_30 h
        refine lv_iinc (v := x3 + 6) (lv' := [(3, .int (x3 + 6)), (0, .ref b), (1, .ref (a 0)), (2, .ref (a 20))]) hx hb d_law_509 hl (k := 3) rfl rfl (by decide) rfl (fun ls hl => ?_)
        refine lv_goto (tgt := 18) hx hb d_law_512 (by decide) ?_
        exact hrec18 _ _ _ _ _ _ _ _ _ _ _ _ _ _ _ _ _ _ _ _ _ _ _ _ _ _ _ _ h _ _ _ hP hD hS (lv_sub hl [1, 2, 3, 0] rfl)
      · have h := ite_F c_30 h
        refine lv_iconst (v := 0) hx hb d_law_210 (by decide) ?_
        exact absurd h (by decide)
    have h := ite_F c_27 h
    by_cases c_31 : ((xs x3.toNatClampNeg) &&& (15 : Int32)) = 4
    · have h := ite_T c_31 h
      refine lv_tableIn (tgt := 212) hx hb d_law_33 (by rw [c_31]; decide) (by rw [c_31]; decide) (by rw [c_31]; rfl) (by decide) ?_
      refine lv_aload_n hx hb d_law_212 rfl (lv_at hl 1 rfl) ?_
      refine lv_aload_n hx hb d_law_213 rfl (lv_at hl 0 rfl) ?_
      refine lv_iload_n hx hb d_law_214 rfl (lv_at hl 3 rfl) ?_
      refine lv_iconst (v := 1) hx hb d_law_215 (by decide) ?_
      refine lv_iadd hx hb d_law_216 ?_
      obtain ⟨g_32, h⟩ := gd_some h
      refine va_sld hx hb hX hbl hbA hS (inb_in g_32) d_law_217 ?_
      obtain ⟨v_33, e_33, h⟩ := bd_some h
      refine go_Vi (r := v_33.1) (As := [.int (xs (x3 + (1 : Int32)).toNatClampNeg)]) (rest := []) (wc := (wB a k lab sg cc ci od sd go ta we oe fp ro sp qr qs)) (wr := [((a 20), .inr (3, [.int mh, .int mn, .int mc, .ref (a 21), .ref (a 22), .ref (a 23), .ref (a 24), .ref (a 25), .int mk, .ref (a 26), .ref (a 27), .ref (a 28), .ref (a 29)])), ((a 21), .inl (k 21, 10, .inl ms)), ((a 22), .inl (k 22, 40, .inl ml)), ((a 23), .inl (k 23, 40, .inl mm)), ((a 24), .inl (k 24, 40, .inl mt)), ((a 25), .inl (k 25, 10, .inl mo)), ((a 26), .inl (k 26, 260, .inr (.inl mr))), ((a 27), .inl (k 27, 672, .inl my)), ((a 28), .inl (k 28, 40, .inr (.inl mb))), ((a 29), .inl (k 29, 4, .inl mf))]) (w1 := (wB a k lab sg cc ci v_33.2.1 v_33.2.2.1 v_33.2.2.2.1 ta v_33.2.2.2.2 oe fp ro sp qr qs)) (w2 := (wX a k lab sg cc ci v_33.2.1 v_33.2.2.1 v_33.2.2.2.1 ta v_33.2.2.2.2 oe fp ro sp qr qs mh mn mc ms ml mm mt mo mk mr my mb mf)) (tc := [(k 1, .int), (k 2, .int), (k 3, .int), (k 4, .int), (k 5, .boolean), (k 6, .int), (k 8, .int), (k 9, .int), (k 11, .long)]) hx hb hml hown ht (c_B_sweep l D a k H.size (xs (x3 + (1 : Int32)).toNatClampNeg) lab sg cc ci od sd go ta we oe fp ro sp qr qs v_33 e_33) g_law_32 ⟨rfl, rfl⟩ (n := 1) (by decide +kernel) ⟨(Nat.le_of_ble_eq_true rfl), (Nat.le_of_ble_eq_true rfl)⟩ hP hD hK hS hA ⟨Nat.le_of_ble_eq_true rfl, Nat.le_of_ble_eq_true rfl⟩ [0, 1, 2, 3, 4, 5, 6, 7, 8, 9, 10, 11, 12] [13, 14, 15, 16, 17, 18, 19, 20, 21, 22] [0, 1, 2, 3, 4, 5, 6, 7, 8] [10, 11, 12, 13, 14, 15, 16, 17, 18, 19, 20, 21, 22, 0, 1, 2, 3, 4, 5, 6, 7, 8, 9] rfl rfl rfl rfl (by decide) (by decide) (by decide) rfl (by decide) 0 rfl rfl rfl rfl rfl hl.1 (Nat.le_of_ble_eq_true rfl) d_law_218 (fun H locs hP hD hS => ?_)
      refine lv_aload_n hx hb d_law_221 rfl (lv_at hl 2 rfl) ?_
      refine lv_aload_n hx hb d_law_222 rfl (lv_at hl 0 rfl) ?_
      refine lv_iload_n hx hb d_law_223 rfl (lv_at hl 3 rfl) ?_
      refine lv_iconst (v := 1) hx hb d_law_224 (by decide) ?_
      refine lv_iadd hx hb d_law_225 ?_
      obtain ⟨g_34, h⟩ := gd_some h
      refine va_sld hx hb hX hbl hbA hS (inb_in g_34) d_law_226 ?_
      obtain ⟨v_35, e_35, h⟩ := bd_some h
      refine go_Vi (r := v_35.1) (As := [.int (xs (x3 + (1 : Int32)).toNatClampNeg)]) (rest := [.int v_33.1]) (wc := (wM a k mh mn mc ms ml mm mt mo mk mr my mb mf)) (wr := [((a 0), .inr (0, [.ref (a 1), .ref (a 2), .int cc, .int ci, .ref (a 3), .ref (a 4), .ref (a 5), .ref (a 6), .ref (a 7), .ref (a 10), .int v_33.2.2.2.2])), ((a 1), .inl (k 1, 40, .inl lab)), ((a 2), .inl (k 2, 10, .inl sg)), ((a 3), .inl (k 3, 10, .inl v_33.2.1)), ((a 4), .inl (k 4, 100, .inl v_33.2.2.1)), ((a 5), .inl (k 5, 10, .inl v_33.2.2.2.1)), ((a 6), .inl (k 6, 330, .inl ta)), ((a 7), .inr (1, [.ref (a 8), .ref (a 9)])), ((a 8), .inl (k 8, 40, .inl oe)), ((a 9), .inl (k 9, 100, .inl fp)), ((a 10), .inr (2, [.ref qr, .ref qs])), (qr, .inl (k 11, 133, .inr (.inl ro))), (qs, .inl (k 11, 133, .inr (.inl sp)))]) (w1 := (wM a k mh mn mc ms ml v_35.2.1 mt v_35.2.2 mk mr my mb mf)) (w2 := (wX a k lab sg cc ci v_33.2.1 v_33.2.2.1 v_33.2.2.2.1 ta v_33.2.2.2.2 oe fp ro sp qr qs mh mn mc ms ml v_35.2.1 mt v_35.2.2 mk mr my mb mf)) (tc := [(k 21, .int), (k 22, .int), (k 23, .int), (k 24, .boolean), (k 25, .boolean), (k 26, .long), (k 27, .int), (k 28, .long), (k 29, .int)]) hx hb hml hown ht (c_M_sweep l D a k H.size (xs (x3 + (1 : Int32)).toNatClampNeg) mh mn mc ms ml mm mt mo mk mr my mb mf v_35 e_35) g_law_35 ⟨rfl, rfl⟩ (n := 1) (by decide +kernel) ⟨(Nat.le_of_ble_eq_true rfl), (Nat.le_of_ble_eq_true rfl)⟩ hP hD hK hS hA ⟨Nat.le_of_ble_eq_true rfl, Nat.le_of_ble_eq_true rfl⟩ [13, 14, 15, 16, 17, 18, 19, 20, 21, 22] [0, 1, 2, 3, 4, 5, 6, 7, 8, 9, 10, 11, 12] [9, 10, 11, 12, 13, 14, 15, 16, 17] [0, 1, 2, 3, 4, 5, 6, 7, 8, 9, 10, 11, 12, 13, 14, 15, 16, 17, 18, 19, 20, 21, 22] rfl rfl rfl rfl (by decide) (by decide) (by decide) rfl (by decide) 0 rfl rfl rfl rfl rfl hl.1 (Nat.le_of_ble_eq_true rfl) d_law_227 (fun H locs hP hD hS => ?_)
      refine lv_icmp_eq (tgt := 509) hx hb d_law_230 (by decide) (fun c_36 => ?_) (fun c_36 => ?_)
      · have h := ite_T c_36 h
        refine lv_iinc (v := x3 + 6) (lv' := [(3, .int (x3 + 6)), (0, .ref b), (1, .ref (a 0)), (2, .ref (a 20))]) hx hb d_law_509 hl (k := 3) rfl rfl (by decide) rfl (fun ls hl => ?_)
        refine lv_goto (tgt := 18) hx hb d_law_512 (by decide) ?_
        exact hrec18 _ _ _ _ _ _ _ _ _ _ _ _ _ _ _ _ _ _ _ _ _ _ _ _ _ _ _ _ h _ _ _ hP hD hS (lv_sub hl [1, 2, 3, 0] rfl)
      · have h := ite_F c_36 h
        refine lv_iconst (v := 0) hx hb d_law_233 (by decide) ?_
        exact absurd h (by decide)
    have h := ite_F c_31 h
    by_cases c_37 : ((xs x3.toNatClampNeg) &&& (15 : Int32)) = 5
    · have h := ite_T c_37 h
      refine lv_tableIn (tgt := 235) hx hb d_law_33 (by rw [c_37]; decide) (by rw [c_37]; decide) (by rw [c_37]; rfl) (by decide) ?_
      refine lv_aload_n hx hb d_law_235 rfl (lv_at hl 1 rfl) ?_
      refine lv_aload_n hx hb d_law_236 rfl (lv_at hl 0 rfl) ?_
      refine lv_iload_n hx hb d_law_237 rfl (lv_at hl 3 rfl) ?_
      refine lv_iconst (v := 1) hx hb d_law_238 (by decide) ?_
      refine lv_iadd hx hb d_law_239 ?_
      obtain ⟨g_38, h⟩ := gd_some h
      refine va_sld hx hb hX hbl hbA hS (inb_in g_38) d_law_240 ?_
      obtain ⟨v_39, e_39, h⟩ := bd_some h
      refine go_Vl (r := v_39.1) (As := [.int (xs (x3 + (1 : Int32)).toNatClampNeg)]) (rest := []) (wc := (wB a k lab sg cc ci od sd go ta we oe fp ro sp qr qs)) (wr := [((a 20), .inr (3, [.int mh, .int mn, .int mc, .ref (a 21), .ref (a 22), .ref (a 23), .ref (a 24), .ref (a 25), .int mk, .ref (a 26), .ref (a 27), .ref (a 28), .ref (a 29)])), ((a 21), .inl (k 21, 10, .inl ms)), ((a 22), .inl (k 22, 40, .inl ml)), ((a 23), .inl (k 23, 40, .inl mm)), ((a 24), .inl (k 24, 40, .inl mt)), ((a 25), .inl (k 25, 10, .inl mo)), ((a 26), .inl (k 26, 260, .inr (.inl mr))), ((a 27), .inl (k 27, 672, .inl my)), ((a 28), .inl (k 28, 40, .inr (.inl mb))), ((a 29), .inl (k 29, 4, .inl mf))]) (w1 := (wB a k lab sg cc ci od v_39.2.1 go v_39.2.2.1 v_39.2.2.2.1 v_39.2.2.2.2.1 v_39.2.2.2.2.2.1 v_39.2.2.2.2.2.2.1 v_39.2.2.2.2.2.2.2.1 v_39.2.2.2.2.2.2.2.2.1 v_39.2.2.2.2.2.2.2.2.2)) (w2 := (wX a k lab sg cc ci od v_39.2.1 go v_39.2.2.1 v_39.2.2.2.1 v_39.2.2.2.2.1 v_39.2.2.2.2.2.1 v_39.2.2.2.2.2.2.1 v_39.2.2.2.2.2.2.2.1 v_39.2.2.2.2.2.2.2.2.1 v_39.2.2.2.2.2.2.2.2.2 mh mn mc ms ml mm mt mo mk mr my mb mf)) (tc := [(k 1, .int), (k 2, .int), (k 3, .int), (k 4, .int), (k 5, .boolean), (k 6, .int), (k 8, .int), (k 9, .int), (k 11, .long)]) hx hb hml hown ht (c_B_bracket l D a k H.size (xs (x3 + (1 : Int32)).toNatClampNeg) lab sg cc ci od sd go ta we oe fp ro sp qr qs v_39 e_39) g_law_36 ⟨rfl, rfl⟩ (n := 1) (by decide +kernel) ⟨(Nat.le_of_ble_eq_true rfl), (Nat.le_of_ble_eq_true rfl)⟩ hP hD hK hS hA ⟨Nat.le_of_ble_eq_true rfl, Nat.le_of_ble_eq_true rfl⟩ [0, 1, 2, 3, 4, 5, 6, 7, 8, 9, 10, 11, 12] [13, 14, 15, 16, 17, 18, 19, 20, 21, 22] [0, 1, 2, 3, 4, 5, 6, 7, 8] [10, 11, 12, 13, 14, 15, 16, 17, 18, 19, 20, 21, 22, 0, 1, 2, 3, 4, 5, 6, 7, 8, 9] rfl rfl rfl rfl (by decide) (by decide) (by decide) rfl (by decide) 0 rfl rfl rfl rfl rfl hl.1 (Nat.le_of_ble_eq_true rfl) d_law_241 (fun H locs hP hD hS => ?_)
      refine lv_aload_n hx hb d_law_244 rfl (lv_at hl 2 rfl) ?_
      refine lv_aload_n hx hb d_law_245 rfl (lv_at hl 0 rfl) ?_
      refine lv_iload_n hx hb d_law_246 rfl (lv_at hl 3 rfl) ?_
      refine lv_iconst (v := 1) hx hb d_law_247 (by decide) ?_
      refine lv_iadd hx hb d_law_248 ?_
      obtain ⟨g_40, h⟩ := gd_some h
      refine va_sld hx hb hX hbl hbA hS (inb_in g_40) d_law_249 ?_
      obtain ⟨v_41, e_41, h⟩ := bd_some h
      refine go_Vl (r := v_41.1) (As := [.int (xs (x3 + (1 : Int32)).toNatClampNeg)]) (rest := [.long v_39.1]) (wc := (wM a k mh mn mc ms ml mm mt mo mk mr my mb mf)) (wr := [((a 0), .inr (0, [.ref (a 1), .ref (a 2), .int cc, .int ci, .ref (a 3), .ref (a 4), .ref (a 5), .ref (a 6), .ref (a 7), .ref (a 10), .int v_39.2.2.2.1])), ((a 1), .inl (k 1, 40, .inl lab)), ((a 2), .inl (k 2, 10, .inl sg)), ((a 3), .inl (k 3, 10, .inl od)), ((a 4), .inl (k 4, 100, .inl v_39.2.1)), ((a 5), .inl (k 5, 10, .inl go)), ((a 6), .inl (k 6, 330, .inl v_39.2.2.1)), ((a 7), .inr (1, [.ref (a 8), .ref (a 9)])), ((a 8), .inl (k 8, 40, .inl v_39.2.2.2.2.1)), ((a 9), .inl (k 9, 100, .inl v_39.2.2.2.2.2.1)), ((a 10), .inr (2, [.ref v_39.2.2.2.2.2.2.2.2.1, .ref v_39.2.2.2.2.2.2.2.2.2])), (v_39.2.2.2.2.2.2.2.2.1, .inl (k 11, 133, .inr (.inl v_39.2.2.2.2.2.2.1))), (v_39.2.2.2.2.2.2.2.2.2, .inl (k 11, 133, .inr (.inl v_39.2.2.2.2.2.2.2.1)))]) (w1 := (wM a k mh mn mc ms ml v_41.2.1 v_41.2.2.1 mo v_41.2.2.2.1 v_41.2.2.2.2.1 v_41.2.2.2.2.2.1 v_41.2.2.2.2.2.2 mf)) (w2 := (wX a k lab sg cc ci od v_39.2.1 go v_39.2.2.1 v_39.2.2.2.1 v_39.2.2.2.2.1 v_39.2.2.2.2.2.1 v_39.2.2.2.2.2.2.1 v_39.2.2.2.2.2.2.2.1 v_39.2.2.2.2.2.2.2.2.1 v_39.2.2.2.2.2.2.2.2.2 mh mn mc ms ml v_41.2.1 v_41.2.2.1 mo v_41.2.2.2.1 v_41.2.2.2.2.1 v_41.2.2.2.2.2.1 v_41.2.2.2.2.2.2 mf)) (tc := [(k 21, .int), (k 22, .int), (k 23, .int), (k 24, .boolean), (k 25, .boolean), (k 26, .long), (k 27, .int), (k 28, .long), (k 29, .int)]) hx hb hml hown ht (c_M_bracket l D a k H.size (xs (x3 + (1 : Int32)).toNatClampNeg) mh mn mc ms ml mm mt mo mk mr my mb mf v_41 e_41) g_law_40 ⟨rfl, rfl⟩ (n := 1) (by decide +kernel) ⟨(Nat.le_of_ble_eq_true rfl), (Nat.le_of_ble_eq_true rfl)⟩ hP hD hK hS hA ⟨Nat.le_of_ble_eq_true rfl, Nat.le_of_ble_eq_true rfl⟩ [13, 14, 15, 16, 17, 18, 19, 20, 21, 22] [0, 1, 2, 3, 4, 5, 6, 7, 8, 9, 10, 11, 12] [9, 10, 11, 12, 13, 14, 15, 16, 17] [0, 1, 2, 3, 4, 5, 6, 7, 8, 9, 10, 11, 12, 13, 14, 15, 16, 17, 18, 19, 20, 21, 22] rfl rfl rfl rfl (by decide) (by decide) (by decide) rfl (by decide) 0 rfl rfl rfl rfl rfl hl.1 (Nat.le_of_ble_eq_true rfl) d_law_250 (fun H locs hP hD hS => ?_)
      refine W.lcmp hx hb d_law_253 ?_
      refine lv_if_eq (tgt := 509) hx hb d_law_254 (by decide) (fun c_42 => ?_) (fun c_42 => ?_)
      · have h := ite_T c_42 h
        refine lv_iinc (v := x3 + 6) (lv' := [(3, .int (x3 + 6)), (0, .ref b), (1, .ref (a 0)), (2, .ref (a 20))]) hx hb d_law_509 hl (k := 3) rfl rfl (by decide) rfl (fun ls hl => ?_)
        refine lv_goto (tgt := 18) hx hb d_law_512 (by decide) ?_
        exact hrec18 _ _ _ _ _ _ _ _ _ _ _ _ _ _ _ _ _ _ _ _ _ _ _ _ _ _ _ _ h _ _ _ hP hD hS (lv_sub hl [1, 2, 3, 0] rfl)
      · have h := ite_F c_42 h
        refine lv_iconst (v := 0) hx hb d_law_257 (by decide) ?_
        exact absurd h (by decide)
    have h := ite_F c_37 h
    by_cases c_43 : ((xs x3.toNatClampNeg) &&& (15 : Int32)) = 6
    · have h := ite_T c_43 h
      refine lv_tableIn (tgt := 259) hx hb d_law_33 (by rw [c_43]; decide) (by rw [c_43]; decide) (by rw [c_43]; rfl) (by decide) ?_
      refine lv_aload_n hx hb d_law_259 rfl (lv_at hl 1 rfl) ?_
      refine lv_aload_n hx hb d_law_260 rfl (lv_at hl 0 rfl) ?_
      refine lv_iload_n hx hb d_law_261 rfl (lv_at hl 3 rfl) ?_
      refine lv_iconst (v := 1) hx hb d_law_262 (by decide) ?_
      refine lv_iadd hx hb d_law_263 ?_
      obtain ⟨g_44, h⟩ := gd_some h
      refine va_sld hx hb hX hbl hbA hS (inb_in g_44) d_law_264 ?_
      obtain ⟨v_45, e_45, h⟩ := bd_some h
      refine go_Vl (r := v_45.1) (As := [.int (xs (x3 + (1 : Int32)).toNatClampNeg)]) (rest := []) (wc := (wB a k lab sg cc ci od sd go ta we oe fp ro sp qr qs)) (wr := [((a 20), .inr (3, [.int mh, .int mn, .int mc, .ref (a 21), .ref (a 22), .ref (a 23), .ref (a 24), .ref (a 25), .int mk, .ref (a 26), .ref (a 27), .ref (a 28), .ref (a 29)])), ((a 21), .inl (k 21, 10, .inl ms)), ((a 22), .inl (k 22, 40, .inl ml)), ((a 23), .inl (k 23, 40, .inl mm)), ((a 24), .inl (k 24, 40, .inl mt)), ((a 25), .inl (k 25, 10, .inl mo)), ((a 26), .inl (k 26, 260, .inr (.inl mr))), ((a 27), .inl (k 27, 672, .inl my)), ((a 28), .inl (k 28, 40, .inr (.inl mb))), ((a 29), .inl (k 29, 4, .inl mf))]) (w1 := (wB a k lab sg cc ci od v_45.2.1 go v_45.2.2.1 v_45.2.2.2.1 v_45.2.2.2.2.1 v_45.2.2.2.2.2.1 v_45.2.2.2.2.2.2.1 v_45.2.2.2.2.2.2.2.1 v_45.2.2.2.2.2.2.2.2.1 v_45.2.2.2.2.2.2.2.2.2)) (w2 := (wX a k lab sg cc ci od v_45.2.1 go v_45.2.2.1 v_45.2.2.2.1 v_45.2.2.2.2.1 v_45.2.2.2.2.2.1 v_45.2.2.2.2.2.2.1 v_45.2.2.2.2.2.2.2.1 v_45.2.2.2.2.2.2.2.2.1 v_45.2.2.2.2.2.2.2.2.2 mh mn mc ms ml mm mt mo mk mr my mb mf)) (tc := [(k 1, .int), (k 2, .int), (k 3, .int), (k 4, .int), (k 5, .boolean), (k 6, .int), (k 8, .int), (k 9, .int), (k 11, .long)]) hx hb hml hown ht (c_B_jones l D a k H.size (xs (x3 + (1 : Int32)).toNatClampNeg) lab sg cc ci od sd go ta we oe fp ro sp qr qs v_45 e_45) g_law_41 ⟨rfl, rfl⟩ (n := 1) (by decide +kernel) ⟨(Nat.le_of_ble_eq_true rfl), (Nat.le_of_ble_eq_true rfl)⟩ hP hD hK hS hA ⟨Nat.le_of_ble_eq_true rfl, Nat.le_of_ble_eq_true rfl⟩ [0, 1, 2, 3, 4, 5, 6, 7, 8, 9, 10, 11, 12] [13, 14, 15, 16, 17, 18, 19, 20, 21, 22] [0, 1, 2, 3, 4, 5, 6, 7, 8] [10, 11, 12, 13, 14, 15, 16, 17, 18, 19, 20, 21, 22, 0, 1, 2, 3, 4, 5, 6, 7, 8, 9] rfl rfl rfl rfl (by decide) (by decide) (by decide) rfl (by decide) 0 rfl rfl rfl rfl rfl hl.1 (Nat.le_of_ble_eq_true rfl) d_law_265 (fun H locs hP hD hS => ?_)
      refine lv_aload_n hx hb d_law_268 rfl (lv_at hl 2 rfl) ?_
      refine lv_aload_n hx hb d_law_269 rfl (lv_at hl 0 rfl) ?_
      refine lv_iload_n hx hb d_law_270 rfl (lv_at hl 3 rfl) ?_
      refine lv_iconst (v := 1) hx hb d_law_271 (by decide) ?_
      refine lv_iadd hx hb d_law_272 ?_
      obtain ⟨g_46, h⟩ := gd_some h
      refine va_sld hx hb hX hbl hbA hS (inb_in g_46) d_law_273 ?_
      obtain ⟨v_47, e_47, h⟩ := bd_some h
      refine go_Vl (r := v_47.1) (As := [.int (xs (x3 + (1 : Int32)).toNatClampNeg)]) (rest := [.long v_45.1]) (wc := (wM a k mh mn mc ms ml mm mt mo mk mr my mb mf)) (wr := [((a 0), .inr (0, [.ref (a 1), .ref (a 2), .int cc, .int ci, .ref (a 3), .ref (a 4), .ref (a 5), .ref (a 6), .ref (a 7), .ref (a 10), .int v_45.2.2.2.1])), ((a 1), .inl (k 1, 40, .inl lab)), ((a 2), .inl (k 2, 10, .inl sg)), ((a 3), .inl (k 3, 10, .inl od)), ((a 4), .inl (k 4, 100, .inl v_45.2.1)), ((a 5), .inl (k 5, 10, .inl go)), ((a 6), .inl (k 6, 330, .inl v_45.2.2.1)), ((a 7), .inr (1, [.ref (a 8), .ref (a 9)])), ((a 8), .inl (k 8, 40, .inl v_45.2.2.2.2.1)), ((a 9), .inl (k 9, 100, .inl v_45.2.2.2.2.2.1)), ((a 10), .inr (2, [.ref v_45.2.2.2.2.2.2.2.2.1, .ref v_45.2.2.2.2.2.2.2.2.2])), (v_45.2.2.2.2.2.2.2.2.1, .inl (k 11, 133, .inr (.inl v_45.2.2.2.2.2.2.1))), (v_45.2.2.2.2.2.2.2.2.2, .inl (k 11, 133, .inr (.inl v_45.2.2.2.2.2.2.2.1)))]) (w1 := (wM a k mh mn mc ms ml v_47.2.1 v_47.2.2.1 mo v_47.2.2.2.1 v_47.2.2.2.2.1 v_47.2.2.2.2.2.1 v_47.2.2.2.2.2.2 mf)) (w2 := (wX a k lab sg cc ci od v_45.2.1 go v_45.2.2.1 v_45.2.2.2.1 v_45.2.2.2.2.1 v_45.2.2.2.2.2.1 v_45.2.2.2.2.2.2.1 v_45.2.2.2.2.2.2.2.1 v_45.2.2.2.2.2.2.2.2.1 v_45.2.2.2.2.2.2.2.2.2 mh mn mc ms ml v_47.2.1 v_47.2.2.1 mo v_47.2.2.2.1 v_47.2.2.2.2.1 v_47.2.2.2.2.2.1 v_47.2.2.2.2.2.2 mf)) (tc := [(k 21, .int), (k 22, .int), (k 23, .int), (k 24, .boolean), (k 25, .boolean), (k 26, .long), (k 27, .int), (k 28, .long), (k 29, .int)]) hx hb hml hown ht (c_M_jones l D a k H.size (xs (x3 + (1 : Int32)).toNatClampNeg) mh mn mc ms ml mm mt mo mk mr my mb mf v_47 e_47) g_law_44 ⟨rfl, rfl⟩ (n := 1) (by decide +kernel) ⟨(Nat.le_of_ble_eq_true rfl), (Nat.le_of_ble_eq_true rfl)⟩ hP hD hK hS hA ⟨Nat.le_of_ble_eq_true rfl, Nat.le_of_ble_eq_true rfl⟩ [13, 14, 15, 16, 17, 18, 19, 20, 21, 22] [0, 1, 2, 3, 4, 5, 6, 7, 8, 9, 10, 11, 12] [9, 10, 11, 12, 13, 14, 15, 16, 17] [0, 1, 2, 3, 4, 5, 6, 7, 8, 9, 10, 11, 12, 13, 14, 15, 16, 17, 18, 19, 20, 21, 22] rfl rfl rfl rfl (by decide) (by decide) (by decide) rfl (by decide) 0 rfl rfl rfl rfl rfl hl.1 (Nat.le_of_ble_eq_true rfl) d_law_274 (fun H locs hP hD hS => ?_)
      refine W.lcmp hx hb d_law_277 ?_
      refine lv_if_eq (tgt := 509) hx hb d_law_278 (by decide) (fun c_48 => ?_) (fun c_48 => ?_)
      · have h := ite_T c_48 h
        refine lv_iinc (v := x3 + 6) (lv' := [(3, .int (x3 + 6)), (0, .ref b), (1, .ref (a 0)), (2, .ref (a 20))]) hx hb d_law_509 hl (k := 3) rfl rfl (by decide) rfl (fun ls hl => ?_)
        refine lv_goto (tgt := 18) hx hb d_law_512 (by decide) ?_
        exact hrec18 _ _ _ _ _ _ _ _ _ _ _ _ _ _ _ _ _ _ _ _ _ _ _ _ _ _ _ _ h _ _ _ hP hD hS (lv_sub hl [1, 2, 3, 0] rfl)
      · have h := ite_F c_48 h
        refine lv_iconst (v := 0) hx hb d_law_281 (by decide) ?_
        exact absurd h (by decide)
    have h := ite_F c_43 h
    by_cases c_49 : ((xs x3.toNatClampNeg) &&& (15 : Int32)) = 7
    · have h := ite_T c_49 h
      refine lv_tableIn (tgt := 283) hx hb d_law_33 (by rw [c_49]; decide) (by rw [c_49]; decide) (by rw [c_49]; rfl) (by decide) ?_
      refine lv_aload_n hx hb d_law_283 rfl (lv_at hl 1 rfl) ?_
      refine lv_aload_n hx hb d_law_284 rfl (lv_at hl 0 rfl) ?_
      refine lv_iload_n hx hb d_law_285 rfl (lv_at hl 3 rfl) ?_
      refine lv_iconst (v := 1) hx hb d_law_286 (by decide) ?_
      refine lv_iadd hx hb d_law_287 ?_
      obtain ⟨g_50, h⟩ := gd_some h
      refine va_sld hx hb hX hbl hbA hS (inb_in g_50) d_law_288 ?_
      refine lv_if_eq (tgt := 296) hx hb d_law_289 (by decide) (fun c_51 => ?_) (fun c_51 => ?_)
      · have h := ite_T c_51 h
        refine lv_iconst (v := 0) hx hb d_law_296 (by decide) ?_
        exact (k_law_297 C hrec18) _ _ _ _ _ _ _ _ _ _ _ _ _ _ _ _ _ _ _ _ _ _ _ _ _ _ _ _ _ h _ _ _ hP hD hS (lv_sub hl [0, 1, 2, 3] rfl)
      · have h := ite_F c_51 h
        refine lv_iconst (v := 1) hx hb d_law_292 (by decide) ?_
        refine lv_goto (tgt := 297) hx hb d_law_293 (by decide) ?_
        exact (k_law_297 C hrec18) _ _ _ _ _ _ _ _ _ _ _ _ _ _ _ _ _ _ _ _ _ _ _ _ _ _ _ _ _ h _ _ _ hP hD hS (lv_sub hl [0, 1, 2, 3] rfl)
    have h := ite_F c_49 h
    by_cases c_52 : ((xs x3.toNatClampNeg) &&& (15 : Int32)) = 8
    · have h := ite_T c_52 h
      refine lv_tableIn (tgt := 348) hx hb d_law_33 (by rw [c_52]; decide) (by rw [c_52]; decide) (by rw [c_52]; rfl) (by decide) ?_
      refine lv_aload_n hx hb d_law_348 rfl (lv_at hl 1 rfl) ?_
      refine lv_aload_n hx hb d_law_349 rfl (lv_at hl 0 rfl) ?_
      refine lv_iload_n hx hb d_law_350 rfl (lv_at hl 3 rfl) ?_
      refine lv_iconst (v := 1) hx hb d_law_351 (by decide) ?_
      refine lv_iadd hx hb d_law_352 ?_
      obtain ⟨g_53, h⟩ := gd_some h
      refine va_sld hx hb hX hbl hbA hS (inb_in g_53) d_law_353 ?_
      obtain ⟨v_54, e_54, h⟩ := bd_some h
      refine go_Vi (r := v_54.1) (As := [.int (xs (x3 + (1 : Int32)).toNatClampNeg)]) (rest := []) (wc := (wB a k lab sg cc ci od sd go ta we oe fp ro sp qr qs)) (wr := [((a 20), .inr (3, [.int mh, .int mn, .int mc, .ref (a 21), .ref (a 22), .ref (a 23), .ref (a 24), .ref (a 25), .int mk, .ref (a 26), .ref (a 27), .ref (a 28), .ref (a 29)])), ((a 21), .inl (k 21, 10, .inl ms)), ((a 22), .inl (k 22, 40, .inl ml)), ((a 23), .inl (k 23, 40, .inl mm)), ((a 24), .inl (k 24, 40, .inl mt)), ((a 25), .inl (k 25, 10, .inl mo)), ((a 26), .inl (k 26, 260, .inr (.inl mr))), ((a 27), .inl (k 27, 672, .inl my)), ((a 28), .inl (k 28, 40, .inr (.inl mb))), ((a 29), .inl (k 29, 4, .inl mf))]) (w1 := (wB a k lab sg cc ci od v_54.2.1 go ta we v_54.2.2.1 v_54.2.2.2 ro sp qr qs)) (w2 := (wX a k lab sg cc ci od v_54.2.1 go ta we v_54.2.2.1 v_54.2.2.2 ro sp qr qs mh mn mc ms ml mm mt mo mk mr my mb mf)) (tc := [(k 1, .int), (k 2, .int), (k 3, .int), (k 4, .int), (k 5, .boolean), (k 6, .int), (k 8, .int), (k 9, .int), (k 11, .long)]) hx hb hml hown ht (c_B_state l D a k H.size (xs (x3 + (1 : Int32)).toNatClampNeg) lab sg cc ci od sd go ta we oe fp ro sp qr qs v_54 e_54) g_law_50 ⟨rfl, rfl⟩ (n := 1) (by decide +kernel) ⟨(Nat.le_of_ble_eq_true rfl), (Nat.le_of_ble_eq_true rfl)⟩ hP hD hK hS hA ⟨Nat.le_of_ble_eq_true rfl, Nat.le_of_ble_eq_true rfl⟩ [0, 1, 2, 3, 4, 5, 6, 7, 8, 9, 10, 11, 12] [13, 14, 15, 16, 17, 18, 19, 20, 21, 22] [0, 1, 2, 3, 4, 5, 6, 7, 8] [10, 11, 12, 13, 14, 15, 16, 17, 18, 19, 20, 21, 22, 0, 1, 2, 3, 4, 5, 6, 7, 8, 9] rfl rfl rfl rfl (by decide) (by decide) (by decide) rfl (by decide) 0 rfl rfl rfl rfl rfl hl.1 (Nat.le_of_ble_eq_true rfl) d_law_354 (fun H locs hP hD hS => ?_)
      refine lv_aload_n hx hb d_law_357 rfl (lv_at hl 2 rfl) ?_
      refine lv_aload_n hx hb d_law_358 rfl (lv_at hl 0 rfl) ?_
      refine lv_iload_n hx hb d_law_359 rfl (lv_at hl 3 rfl) ?_
      refine lv_iconst (v := 1) hx hb d_law_360 (by decide) ?_
      refine lv_iadd hx hb d_law_361 ?_
      obtain ⟨g_55, h⟩ := gd_some h
      refine va_sld hx hb hX hbl hbA hS (inb_in g_55) d_law_362 ?_
      obtain ⟨v_56, e_56, h⟩ := bd_some h
      refine go_Vi (r := v_56.1) (As := [.int (xs (x3 + (1 : Int32)).toNatClampNeg)]) (rest := [.int v_54.1]) (wc := (wM a k mh mn mc ms ml mm mt mo mk mr my mb mf)) (wr := [((a 0), .inr (0, [.ref (a 1), .ref (a 2), .int cc, .int ci, .ref (a 3), .ref (a 4), .ref (a 5), .ref (a 6), .ref (a 7), .ref (a 10), .int we])), ((a 1), .inl (k 1, 40, .inl lab)), ((a 2), .inl (k 2, 10, .inl sg)), ((a 3), .inl (k 3, 10, .inl od)), ((a 4), .inl (k 4, 100, .inl v_54.2.1)), ((a 5), .inl (k 5, 10, .inl go)), ((a 6), .inl (k 6, 330, .inl ta)), ((a 7), .inr (1, [.ref (a 8), .ref (a 9)])), ((a 8), .inl (k 8, 40, .inl v_54.2.2.1)), ((a 9), .inl (k 9, 100, .inl v_54.2.2.2)), ((a 10), .inr (2, [.ref qr, .ref qs])), (qr, .inl (k 11, 133, .inr (.inl ro))), (qs, .inl (k 11, 133, .inr (.inl sp)))]) (w1 := (wM a k mh mn mc ms ml v_56.2.1 v_56.2.2 mo mk mr my mb mf)) (w2 := (wX a k lab sg cc ci od v_54.2.1 go ta we v_54.2.2.1 v_54.2.2.2 ro sp qr qs mh mn mc ms ml v_56.2.1 v_56.2.2 mo mk mr my mb mf)) (tc := [(k 21, .int), (k 22, .int), (k 23, .int), (k 24, .boolean), (k 25, .boolean), (k 26, .long), (k 27, .int), (k 28, .long), (k 29, .int)]) hx hb hml hown ht (c_M_state l D a k H.size (xs (x3 + (1 : Int32)).toNatClampNeg) mh mn mc ms ml mm mt mo mk mr my mb mf v_56 e_56) g_law_53 ⟨rfl, rfl⟩ (n := 1) (by decide +kernel) ⟨(Nat.le_of_ble_eq_true rfl), (Nat.le_of_ble_eq_true rfl)⟩ hP hD hK hS hA ⟨Nat.le_of_ble_eq_true rfl, Nat.le_of_ble_eq_true rfl⟩ [13, 14, 15, 16, 17, 18, 19, 20, 21, 22] [0, 1, 2, 3, 4, 5, 6, 7, 8, 9, 10, 11, 12] [9, 10, 11, 12, 13, 14, 15, 16, 17] [0, 1, 2, 3, 4, 5, 6, 7, 8, 9, 10, 11, 12, 13, 14, 15, 16, 17, 18, 19, 20, 21, 22] rfl rfl rfl rfl (by decide) (by decide) (by decide) rfl (by decide) 0 rfl rfl rfl rfl rfl hl.1 (Nat.le_of_ble_eq_true rfl) d_law_363 (fun H locs hP hD hS => ?_)
      refine lv_icmp_eq (tgt := 509) hx hb d_law_366 (by decide) (fun c_57 => ?_) (fun c_57 => ?_)
      · have h := ite_T c_57 h
        refine lv_iinc (v := x3 + 6) (lv' := [(3, .int (x3 + 6)), (0, .ref b), (1, .ref (a 0)), (2, .ref (a 20))]) hx hb d_law_509 hl (k := 3) rfl rfl (by decide) rfl (fun ls hl => ?_)
        refine lv_goto (tgt := 18) hx hb d_law_512 (by decide) ?_
        exact hrec18 _ _ _ _ _ _ _ _ _ _ _ _ _ _ _ _ _ _ _ _ _ _ _ _ _ _ _ _ h _ _ _ hP hD hS (lv_sub hl [1, 2, 3, 0] rfl)
      · have h := ite_F c_57 h
        refine lv_iconst (v := 0) hx hb d_law_369 (by decide) ?_
        exact absurd h (by decide)
    have h := ite_F c_52 h
    by_cases c_58 : ((xs x3.toNatClampNeg) &&& (15 : Int32)) = 9
    · have h := ite_T c_58 h
      refine lv_tableIn (tgt := 371) hx hb d_law_33 (by rw [c_58]; decide) (by rw [c_58]; decide) (by rw [c_58]; rfl) (by decide) ?_
      refine lv_aload_n hx hb d_law_371 rfl (lv_at hl 1 rfl) ?_
      refine lv_aload_n hx hb d_law_372 rfl (lv_at hl 0 rfl) ?_
      refine lv_iload_n hx hb d_law_373 rfl (lv_at hl 3 rfl) ?_
      refine lv_iconst (v := 1) hx hb d_law_374 (by decide) ?_
      refine lv_iadd hx hb d_law_375 ?_
      obtain ⟨g_59, h⟩ := gd_some h
      refine va_sld hx hb hX hbl hbA hS (inb_in g_59) d_law_376 ?_
      refine lv_aload_n hx hb d_law_377 rfl (lv_at hl 0 rfl) ?_
      refine lv_iload_n hx hb d_law_378 rfl (lv_at hl 3 rfl) ?_
      refine lv_iconst (v := 2) hx hb d_law_379 (by decide) ?_
      refine lv_iadd hx hb d_law_380 ?_
      obtain ⟨g_60, h⟩ := gd_some h
      refine va_sld hx hb hX hbl hbA hS (inb_in g_60) d_law_381 ?_
      obtain ⟨v_61, e_61, h⟩ := bd_some h
      refine go_Vi (r := v_61) (As := [.int (xs (x3 + (1 : Int32)).toNatClampNeg), .int (xs (x3 + (2 : Int32)).toNatClampNeg)]) (rest := []) (wc := (wB a k lab sg cc ci od sd go ta we oe fp ro sp qr qs)) (wr := [((a 20), .inr (3, [.int mh, .int mn, .int mc, .ref (a 21), .ref (a 22), .ref (a 23), .ref (a 24), .ref (a 25), .int mk, .ref (a 26), .ref (a 27), .ref (a 28), .ref (a 29)])), ((a 21), .inl (k 21, 10, .inl ms)), ((a 22), .inl (k 22, 40, .inl ml)), ((a 23), .inl (k 23, 40, .inl mm)), ((a 24), .inl (k 24, 40, .inl mt)), ((a 25), .inl (k 25, 10, .inl mo)), ((a 26), .inl (k 26, 260, .inr (.inl mr))), ((a 27), .inl (k 27, 672, .inl my)), ((a 28), .inl (k 28, 40, .inr (.inl mb))), ((a 29), .inl (k 29, 4, .inl mf))]) (w1 := (wB a k lab sg cc ci od sd go ta we oe fp ro sp qr qs)) (w2 := (wX a k lab sg cc ci od sd go ta we oe fp ro sp qr qs mh mn mc ms ml mm mt mo mk mr my mb mf)) (tc := [(k 1, .int), (k 2, .int), (k 3, .int), (k 4, .int), (k 5, .boolean), (k 6, .int), (k 8, .int), (k 9, .int), (k 11, .long)]) hx hb hml hown ht (c_B_look l D a k H.size (xs (x3 + (1 : Int32)).toNatClampNeg) (xs (x3 + (2 : Int32)).toNatClampNeg) lab sg cc ci od sd go ta we oe fp ro sp qr qs v_61 e_61) g_law_54 ⟨rfl, rfl⟩ (n := 2) (by decide +kernel) ⟨(Nat.le_of_ble_eq_true rfl), (Nat.le_of_ble_eq_true rfl)⟩ hP hD hK hS hA ⟨Nat.le_of_ble_eq_true rfl, Nat.le_of_ble_eq_true rfl⟩ [0, 1, 2, 3, 4, 5, 6, 7, 8, 9, 10, 11, 12] [13, 14, 15, 16, 17, 18, 19, 20, 21, 22] [0, 1, 2, 3, 4, 5, 6, 7, 8] [10, 11, 12, 13, 14, 15, 16, 17, 18, 19, 20, 21, 22, 0, 1, 2, 3, 4, 5, 6, 7, 8, 9] rfl rfl rfl rfl (by decide) (by decide) (by decide) rfl (by decide) 0 rfl rfl rfl rfl rfl hl.1 (Nat.le_of_ble_eq_true rfl) d_law_382 (fun H locs hP hD hS => ?_)
      refine lv_aload_n hx hb d_law_385 rfl (lv_at hl 2 rfl) ?_
      refine lv_aload_n hx hb d_law_386 rfl (lv_at hl 0 rfl) ?_
      refine lv_iload_n hx hb d_law_387 rfl (lv_at hl 3 rfl) ?_
      refine lv_iconst (v := 1) hx hb d_law_388 (by decide) ?_
      refine lv_iadd hx hb d_law_389 ?_
      obtain ⟨g_62, h⟩ := gd_some h
      refine va_sld hx hb hX hbl hbA hS (inb_in g_62) d_law_390 ?_
      refine lv_aload_n hx hb d_law_391 rfl (lv_at hl 0 rfl) ?_
      refine lv_iload_n hx hb d_law_392 rfl (lv_at hl 3 rfl) ?_
      refine lv_iconst (v := 2) hx hb d_law_393 (by decide) ?_
      refine lv_iadd hx hb d_law_394 ?_
      obtain ⟨g_63, h⟩ := gd_some h
      refine va_sld hx hb hX hbl hbA hS (inb_in g_63) d_law_395 ?_
      obtain ⟨v_64, e_64, h⟩ := bd_some h
      refine go_Vi (r := v_64) (As := [.int (xs (x3 + (1 : Int32)).toNatClampNeg), .int (xs (x3 + (2 : Int32)).toNatClampNeg)]) (rest := [.int v_61]) (wc := (wM a k mh mn mc ms ml mm mt mo mk mr my mb mf)) (wr := [((a 0), .inr (0, [.ref (a 1), .ref (a 2), .int cc, .int ci, .ref (a 3), .ref (a 4), .ref (a 5), .ref (a 6), .ref (a 7), .ref (a 10), .int we])), ((a 1), .inl (k 1, 40, .inl lab)), ((a 2), .inl (k 2, 10, .inl sg)), ((a 3), .inl (k 3, 10, .inl od)), ((a 4), .inl (k 4, 100, .inl sd)), ((a 5), .inl (k 5, 10, .inl go)), ((a 6), .inl (k 6, 330, .inl ta)), ((a 7), .inr (1, [.ref (a 8), .ref (a 9)])), ((a 8), .inl (k 8, 40, .inl oe)), ((a 9), .inl (k 9, 100, .inl fp)), ((a 10), .inr (2, [.ref qr, .ref qs])), (qr, .inl (k 11, 133, .inr (.inl ro))), (qs, .inl (k 11, 133, .inr (.inl sp)))]) (w1 := (wM a k mh mn mc ms ml mm mt mo mk mr my mb mf)) (w2 := (wX a k lab sg cc ci od sd go ta we oe fp ro sp qr qs mh mn mc ms ml mm mt mo mk mr my mb mf)) (tc := [(k 21, .int), (k 22, .int), (k 23, .int), (k 24, .boolean), (k 25, .boolean), (k 26, .long), (k 27, .int), (k 28, .long), (k 29, .int)]) hx hb hml hown ht (c_M_look l D a k H.size (xs (x3 + (1 : Int32)).toNatClampNeg) (xs (x3 + (2 : Int32)).toNatClampNeg) mh mn mc ms ml mm mt mo mk mr my mb mf v_64 e_64) g_law_58 ⟨rfl, rfl⟩ (n := 2) (by decide +kernel) ⟨(Nat.le_of_ble_eq_true rfl), (Nat.le_of_ble_eq_true rfl)⟩ hP hD hK hS hA ⟨Nat.le_of_ble_eq_true rfl, Nat.le_of_ble_eq_true rfl⟩ [13, 14, 15, 16, 17, 18, 19, 20, 21, 22] [0, 1, 2, 3, 4, 5, 6, 7, 8, 9, 10, 11, 12] [9, 10, 11, 12, 13, 14, 15, 16, 17] [0, 1, 2, 3, 4, 5, 6, 7, 8, 9, 10, 11, 12, 13, 14, 15, 16, 17, 18, 19, 20, 21, 22] rfl rfl rfl rfl (by decide) (by decide) (by decide) rfl (by decide) 0 rfl rfl rfl rfl rfl hl.1 (Nat.le_of_ble_eq_true rfl) d_law_396 (fun H locs hP hD hS => ?_)
      refine lv_icmp_eq (tgt := 509) hx hb d_law_399 (by decide) (fun c_65 => ?_) (fun c_65 => ?_)
      · have h := ite_T c_65 h
        refine lv_iinc (v := x3 + 6) (lv' := [(3, .int (x3 + 6)), (0, .ref b), (1, .ref (a 0)), (2, .ref (a 20))]) hx hb d_law_509 hl (k := 3) rfl rfl (by decide) rfl (fun ls hl => ?_)
        refine lv_goto (tgt := 18) hx hb d_law_512 (by decide) ?_
        exact hrec18 _ _ _ _ _ _ _ _ _ _ _ _ _ _ _ _ _ _ _ _ _ _ _ _ _ _ _ _ h _ _ _ hP hD hS (lv_sub hl [1, 2, 3, 0] rfl)
      · have h := ite_F c_65 h
        refine lv_iconst (v := 0) hx hb d_law_402 (by decide) ?_
        exact absurd h (by decide)
    have h := ite_F c_58 h
    by_cases c_66 : ((xs x3.toNatClampNeg) &&& (15 : Int32)) = 10
    · have h := ite_T c_66 h
      refine lv_tableIn (tgt := 404) hx hb d_law_33 (by rw [c_66]; decide) (by rw [c_66]; decide) (by rw [c_66]; rfl) (by decide) ?_
      refine lv_aload_n hx hb d_law_404 rfl (lv_at hl 1 rfl) ?_
      refine lv_aload_n hx hb d_law_405 rfl (lv_at hl 0 rfl) ?_
      refine lv_iload_n hx hb d_law_406 rfl (lv_at hl 3 rfl) ?_
      refine lv_iconst (v := 1) hx hb d_law_407 (by decide) ?_
      refine lv_iadd hx hb d_law_408 ?_
      obtain ⟨g_67, h⟩ := gd_some h
      refine va_sld hx hb hX hbl hbA hS (inb_in g_67) d_law_409 ?_
      refine lv_aload_n hx hb d_law_410 rfl (lv_at hl 0 rfl) ?_
      refine lv_iload_n hx hb d_law_411 rfl (lv_at hl 3 rfl) ?_
      refine lv_iconst (v := 2) hx hb d_law_412 (by decide) ?_
      refine lv_iadd hx hb d_law_413 ?_
      obtain ⟨g_68, h⟩ := gd_some h
      refine va_sld hx hb hX hbl hbA hS (inb_in g_68) d_law_414 ?_
      refine lv_if_eq (tgt := 422) hx hb d_law_415 (by decide) (fun c_69 => ?_) (fun c_69 => ?_)
      · have h := ite_T c_69 h
        refine lv_iconst (v := 0) hx hb d_law_422 (by decide) ?_
        exact (k_law_423 C hrec18) _ _ _ _ _ _ _ _ _ _ _ _ _ _ _ _ _ _ _ _ _ _ _ _ _ _ _ _ _ _ h _ _ _ hP hD hS (lv_sub hl [0, 1, 2, 3] rfl)
      · have h := ite_F c_69 h
        refine lv_iconst (v := 1) hx hb d_law_418 (by decide) ?_
        refine lv_goto (tgt := 423) hx hb d_law_419 (by decide) ?_
        exact (k_law_423 C hrec18) _ _ _ _ _ _ _ _ _ _ _ _ _ _ _ _ _ _ _ _ _ _ _ _ _ _ _ _ _ _ h _ _ _ hP hD hS (lv_sub hl [0, 1, 2, 3] rfl)
    have h := ite_F c_66 h
    by_cases c_70 : ((xs x3.toNatClampNeg) &&& (15 : Int32)) = 11
    · have h := ite_T c_70 h
      refine lv_tableIn (tgt := 453) hx hb d_law_33 (by rw [c_70]; decide) (by rw [c_70]; decide) (by rw [c_70]; rfl) (by decide) ?_
      refine lv_aload_n hx hb d_law_453 rfl (lv_at hl 1 rfl) ?_
      refine lv_aload_n hx hb d_law_454 rfl (lv_at hl 0 rfl) ?_
      refine lv_iload_n hx hb d_law_455 rfl (lv_at hl 3 rfl) ?_
      refine lv_iconst (v := 1) hx hb d_law_456 (by decide) ?_
      refine lv_iadd hx hb d_law_457 ?_
      obtain ⟨g_71, h⟩ := gd_some h
      refine va_sld hx hb hX hbl hbA hS (inb_in g_71) d_law_458 ?_
      obtain ⟨v_72, e_72, h⟩ := bd_some h
      refine go_Vi (r := v_72.1) (As := [.int (xs (x3 + (1 : Int32)).toNatClampNeg)]) (rest := []) (wc := (wB a k lab sg cc ci od sd go ta we oe fp ro sp qr qs)) (wr := [((a 20), .inr (3, [.int mh, .int mn, .int mc, .ref (a 21), .ref (a 22), .ref (a 23), .ref (a 24), .ref (a 25), .int mk, .ref (a 26), .ref (a 27), .ref (a 28), .ref (a 29)])), ((a 21), .inl (k 21, 10, .inl ms)), ((a 22), .inl (k 22, 40, .inl ml)), ((a 23), .inl (k 23, 40, .inl mm)), ((a 24), .inl (k 24, 40, .inl mt)), ((a 25), .inl (k 25, 10, .inl mo)), ((a 26), .inl (k 26, 260, .inr (.inl mr))), ((a 27), .inl (k 27, 672, .inl my)), ((a 28), .inl (k 28, 40, .inr (.inl mb))), ((a 29), .inl (k 29, 4, .inl mf))]) (w1 := (wB a k v_72.2.1 v_72.2.2.1 cc ci v_72.2.2.2.1 sd go ta v_72.2.2.2.2 oe fp ro sp qr qs)) (w2 := (wX a k v_72.2.1 v_72.2.2.1 cc ci v_72.2.2.2.1 sd go ta v_72.2.2.2.2 oe fp ro sp qr qs mh mn mc ms ml mm mt mo mk mr my mb mf)) (tc := [(k 1, .int), (k 2, .int), (k 3, .int), (k 4, .int), (k 5, .boolean), (k 6, .int), (k 8, .int), (k 9, .int), (k 11, .long)]) hx hb hml hown ht (c_B_change l D a k H.size (xs (x3 + (1 : Int32)).toNatClampNeg) lab sg cc ci od sd go ta we oe fp ro sp qr qs v_72 e_72) g_law_64 ⟨rfl, rfl⟩ (n := 1) (by decide +kernel) ⟨(Nat.le_of_ble_eq_true rfl), (Nat.le_of_ble_eq_true rfl)⟩ hP hD hK hS hA ⟨Nat.le_of_ble_eq_true rfl, Nat.le_of_ble_eq_true rfl⟩ [0, 1, 2, 3, 4, 5, 6, 7, 8, 9, 10, 11, 12] [13, 14, 15, 16, 17, 18, 19, 20, 21, 22] [0, 1, 2, 3, 4, 5, 6, 7, 8] [10, 11, 12, 13, 14, 15, 16, 17, 18, 19, 20, 21, 22, 0, 1, 2, 3, 4, 5, 6, 7, 8, 9] rfl rfl rfl rfl (by decide) (by decide) (by decide) rfl (by decide) 0 rfl rfl rfl rfl rfl hl.1 (Nat.le_of_ble_eq_true rfl) d_law_459 (fun H locs hP hD hS => ?_)
      refine lv_aload_n hx hb d_law_462 rfl (lv_at hl 2 rfl) ?_
      refine lv_aload_n hx hb d_law_463 rfl (lv_at hl 0 rfl) ?_
      refine lv_iload_n hx hb d_law_464 rfl (lv_at hl 3 rfl) ?_
      refine lv_iconst (v := 1) hx hb d_law_465 (by decide) ?_
      refine lv_iadd hx hb d_law_466 ?_
      obtain ⟨g_73, h⟩ := gd_some h
      refine va_sld hx hb hX hbl hbA hS (inb_in g_73) d_law_467 ?_
      obtain ⟨v_74, e_74, h⟩ := bd_some h
      refine go_Vi (r := v_74.1) (As := [.int (xs (x3 + (1 : Int32)).toNatClampNeg)]) (rest := [.int v_72.1]) (wc := (wM a k mh mn mc ms ml mm mt mo mk mr my mb mf)) (wr := [((a 0), .inr (0, [.ref (a 1), .ref (a 2), .int cc, .int ci, .ref (a 3), .ref (a 4), .ref (a 5), .ref (a 6), .ref (a 7), .ref (a 10), .int v_72.2.2.2.2])), ((a 1), .inl (k 1, 40, .inl v_72.2.1)), ((a 2), .inl (k 2, 10, .inl v_72.2.2.1)), ((a 3), .inl (k 3, 10, .inl v_72.2.2.2.1)), ((a 4), .inl (k 4, 100, .inl sd)), ((a 5), .inl (k 5, 10, .inl go)), ((a 6), .inl (k 6, 330, .inl ta)), ((a 7), .inr (1, [.ref (a 8), .ref (a 9)])), ((a 8), .inl (k 8, 40, .inl oe)), ((a 9), .inl (k 9, 100, .inl fp)), ((a 10), .inr (2, [.ref qr, .ref qs])), (qr, .inl (k 11, 133, .inr (.inl ro))), (qs, .inl (k 11, 133, .inr (.inl sp)))]) (w1 := (wM a k mh mn mc v_74.2.1 v_74.2.2.1 mm mt mo v_74.2.2.2 mr my mb mf)) (w2 := (wX a k v_72.2.1 v_72.2.2.1 cc ci v_72.2.2.2.1 sd go ta v_72.2.2.2.2 oe fp ro sp qr qs mh mn mc v_74.2.1 v_74.2.2.1 mm mt mo v_74.2.2.2 mr my mb mf)) (tc := [(k 21, .int), (k 22, .int), (k 23, .int), (k 24, .boolean), (k 25, .boolean), (k 26, .long), (k 27, .int), (k 28, .long), (k 29, .int)]) hx hb hml hown ht (c_M_change l D a k H.size (xs (x3 + (1 : Int32)).toNatClampNeg) mh mn mc ms ml mm mt mo mk mr my mb mf v_74 e_74) g_law_68 ⟨rfl, rfl⟩ (n := 1) (by decide +kernel) ⟨(Nat.le_of_ble_eq_true rfl), (Nat.le_of_ble_eq_true rfl)⟩ hP hD hK hS hA ⟨Nat.le_of_ble_eq_true rfl, Nat.le_of_ble_eq_true rfl⟩ [13, 14, 15, 16, 17, 18, 19, 20, 21, 22] [0, 1, 2, 3, 4, 5, 6, 7, 8, 9, 10, 11, 12] [9, 10, 11, 12, 13, 14, 15, 16, 17] [0, 1, 2, 3, 4, 5, 6, 7, 8, 9, 10, 11, 12, 13, 14, 15, 16, 17, 18, 19, 20, 21, 22] rfl rfl rfl rfl (by decide) (by decide) (by decide) rfl (by decide) 0 rfl rfl rfl rfl rfl hl.1 (Nat.le_of_ble_eq_true rfl) d_law_468 (fun H locs hP hD hS => ?_)
      refine lv_icmp_eq (tgt := 509) hx hb d_law_471 (by decide) (fun c_75 => ?_) (fun c_75 => ?_)
      · have h := ite_T c_75 h
        refine lv_iinc (v := x3 + 6) (lv' := [(3, .int (x3 + 6)), (0, .ref b), (1, .ref (a 0)), (2, .ref (a 20))]) hx hb d_law_509 hl (k := 3) rfl rfl (by decide) rfl (fun ls hl => ?_)
        refine lv_goto (tgt := 18) hx hb d_law_512 (by decide) ?_
        exact hrec18 _ _ _ _ _ _ _ _ _ _ _ _ _ _ _ _ _ _ _ _ _ _ _ _ _ _ _ _ h _ _ _ hP hD hS (lv_sub hl [1, 2, 3, 0] rfl)
      · have h := ite_F c_75 h
        refine lv_iconst (v := 0) hx hb d_law_474 (by decide) ?_
        exact absurd h (by decide)
    have h := ite_F c_70 h
    by_cases c_76 : ((xs x3.toNatClampNeg) &&& (15 : Int32)) = 12
    · have h := ite_T c_76 h
      refine lv_tableIn (tgt := 476) hx hb d_law_33 (by rw [c_76]; decide) (by rw [c_76]; decide) (by rw [c_76]; rfl) (by decide) ?_
      refine lv_aload_n hx hb d_law_476 rfl (lv_at hl 1 rfl) ?_
      refine lv_aload_n hx hb d_law_477 rfl (lv_at hl 0 rfl) ?_
      refine lv_iload_n hx hb d_law_478 rfl (lv_at hl 3 rfl) ?_
      refine lv_iconst (v := 1) hx hb d_law_479 (by decide) ?_
      refine lv_iadd hx hb d_law_480 ?_
      obtain ⟨g_77, h⟩ := gd_some h
      refine va_sld hx hb hX hbl hbA hS (inb_in g_77) d_law_481 ?_
      refine lv_aload_n hx hb d_law_482 rfl (lv_at hl 0 rfl) ?_
      refine lv_iload_n hx hb d_law_483 rfl (lv_at hl 3 rfl) ?_
      refine lv_iconst (v := 2) hx hb d_law_484 (by decide) ?_
      refine lv_iadd hx hb d_law_485 ?_
      obtain ⟨g_78, h⟩ := gd_some h
      refine va_sld hx hb hX hbl hbA hS (inb_in g_78) d_law_486 ?_
      obtain ⟨v_79, e_79, h⟩ := bd_some h
      refine go_Vi (r := v_79.1) (As := [.int (xs (x3 + (1 : Int32)).toNatClampNeg), .int (xs (x3 + (2 : Int32)).toNatClampNeg)]) (rest := []) (wc := (wB a k lab sg cc ci od sd go ta we oe fp ro sp qr qs)) (wr := [((a 20), .inr (3, [.int mh, .int mn, .int mc, .ref (a 21), .ref (a 22), .ref (a 23), .ref (a 24), .ref (a 25), .int mk, .ref (a 26), .ref (a 27), .ref (a 28), .ref (a 29)])), ((a 21), .inl (k 21, 10, .inl ms)), ((a 22), .inl (k 22, 40, .inl ml)), ((a 23), .inl (k 23, 40, .inl mm)), ((a 24), .inl (k 24, 40, .inl mt)), ((a 25), .inl (k 25, 10, .inl mo)), ((a 26), .inl (k 26, 260, .inr (.inl mr))), ((a 27), .inl (k 27, 672, .inl my)), ((a 28), .inl (k 28, 40, .inr (.inl mb))), ((a 29), .inl (k 29, 4, .inl mf))]) (w1 := (wB a k v_79.2.1 v_79.2.2.1 cc ci v_79.2.2.2.1 sd go ta v_79.2.2.2.2 oe fp ro sp qr qs)) (w2 := (wX a k v_79.2.1 v_79.2.2.1 cc ci v_79.2.2.2.1 sd go ta v_79.2.2.2.2 oe fp ro sp qr qs mh mn mc ms ml mm mt mo mk mr my mb mf)) (tc := [(k 1, .int), (k 2, .int), (k 3, .int), (k 4, .int), (k 5, .boolean), (k 6, .int), (k 8, .int), (k 9, .int), (k 11, .long)]) hx hb hml hown ht (c_B_move l D a k H.size (xs (x3 + (1 : Int32)).toNatClampNeg) (xs (x3 + (2 : Int32)).toNatClampNeg) lab sg cc ci od sd go ta we oe fp ro sp qr qs v_79 e_79) g_law_69 ⟨rfl, rfl⟩ (n := 2) (by decide +kernel) ⟨(Nat.le_of_ble_eq_true rfl), (Nat.le_of_ble_eq_true rfl)⟩ hP hD hK hS hA ⟨Nat.le_of_ble_eq_true rfl, Nat.le_of_ble_eq_true rfl⟩ [0, 1, 2, 3, 4, 5, 6, 7, 8, 9, 10, 11, 12] [13, 14, 15, 16, 17, 18, 19, 20, 21, 22] [0, 1, 2, 3, 4, 5, 6, 7, 8] [10, 11, 12, 13, 14, 15, 16, 17, 18, 19, 20, 21, 22, 0, 1, 2, 3, 4, 5, 6, 7, 8, 9] rfl rfl rfl rfl (by decide) (by decide) (by decide) rfl (by decide) 0 rfl rfl rfl rfl rfl hl.1 (Nat.le_of_ble_eq_true rfl) d_law_487 (fun H locs hP hD hS => ?_)
      refine lv_aload_n hx hb d_law_490 rfl (lv_at hl 2 rfl) ?_
      refine lv_aload_n hx hb d_law_491 rfl (lv_at hl 0 rfl) ?_
      refine lv_iload_n hx hb d_law_492 rfl (lv_at hl 3 rfl) ?_
      refine lv_iconst (v := 1) hx hb d_law_493 (by decide) ?_
      refine lv_iadd hx hb d_law_494 ?_
      obtain ⟨g_80, h⟩ := gd_some h
      refine va_sld hx hb hX hbl hbA hS (inb_in g_80) d_law_495 ?_
      refine lv_aload_n hx hb d_law_496 rfl (lv_at hl 0 rfl) ?_
      refine lv_iload_n hx hb d_law_497 rfl (lv_at hl 3 rfl) ?_
      refine lv_iconst (v := 2) hx hb d_law_498 (by decide) ?_
      refine lv_iadd hx hb d_law_499 ?_
      obtain ⟨g_81, h⟩ := gd_some h
      refine va_sld hx hb hX hbl hbA hS (inb_in g_81) d_law_500 ?_
      obtain ⟨v_82, e_82, h⟩ := bd_some h
      refine go_Vi (r := v_82.1) (As := [.int (xs (x3 + (1 : Int32)).toNatClampNeg), .int (xs (x3 + (2 : Int32)).toNatClampNeg)]) (rest := [.int v_79.1]) (wc := (wM a k mh mn mc ms ml mm mt mo mk mr my mb mf)) (wr := [((a 0), .inr (0, [.ref (a 1), .ref (a 2), .int cc, .int ci, .ref (a 3), .ref (a 4), .ref (a 5), .ref (a 6), .ref (a 7), .ref (a 10), .int v_79.2.2.2.2])), ((a 1), .inl (k 1, 40, .inl v_79.2.1)), ((a 2), .inl (k 2, 10, .inl v_79.2.2.1)), ((a 3), .inl (k 3, 10, .inl v_79.2.2.2.1)), ((a 4), .inl (k 4, 100, .inl sd)), ((a 5), .inl (k 5, 10, .inl go)), ((a 6), .inl (k 6, 330, .inl ta)), ((a 7), .inr (1, [.ref (a 8), .ref (a 9)])), ((a 8), .inl (k 8, 40, .inl oe)), ((a 9), .inl (k 9, 100, .inl fp)), ((a 10), .inr (2, [.ref qr, .ref qs])), (qr, .inl (k 11, 133, .inr (.inl ro))), (qs, .inl (k 11, 133, .inr (.inl sp)))]) (w1 := (wM a k mh mn mc v_82.2.1 v_82.2.2 mm mt mo mk mr my mb mf)) (w2 := (wX a k v_79.2.1 v_79.2.2.1 cc ci v_79.2.2.2.1 sd go ta v_79.2.2.2.2 oe fp ro sp qr qs mh mn mc v_82.2.1 v_82.2.2 mm mt mo mk mr my mb mf)) (tc := [(k 21, .int), (k 22, .int), (k 23, .int), (k 24, .boolean), (k 25, .boolean), (k 26, .long), (k 27, .int), (k 28, .long), (k 29, .int)]) hx hb hml hown ht (c_M_move l D a k H.size (xs (x3 + (1 : Int32)).toNatClampNeg) (xs (x3 + (2 : Int32)).toNatClampNeg) mh mn mc ms ml mm mt mo mk mr my mb mf v_82 e_82) g_law_73 ⟨rfl, rfl⟩ (n := 2) (by decide +kernel) ⟨(Nat.le_of_ble_eq_true rfl), (Nat.le_of_ble_eq_true rfl)⟩ hP hD hK hS hA ⟨Nat.le_of_ble_eq_true rfl, Nat.le_of_ble_eq_true rfl⟩ [13, 14, 15, 16, 17, 18, 19, 20, 21, 22] [0, 1, 2, 3, 4, 5, 6, 7, 8, 9, 10, 11, 12] [9, 10, 11, 12, 13, 14, 15, 16, 17] [0, 1, 2, 3, 4, 5, 6, 7, 8, 9, 10, 11, 12, 13, 14, 15, 16, 17, 18, 19, 20, 21, 22] rfl rfl rfl rfl (by decide) (by decide) (by decide) rfl (by decide) 0 rfl rfl rfl rfl rfl hl.1 (Nat.le_of_ble_eq_true rfl) d_law_501 (fun H locs hP hD hS => ?_)
      refine lv_icmp_eq (tgt := 509) hx hb d_law_504 (by decide) (fun c_83 => ?_) (fun c_83 => ?_)
      · have h := ite_T c_83 h
        refine lv_iinc (v := x3 + 6) (lv' := [(3, .int (x3 + 6)), (0, .ref b), (1, .ref (a 0)), (2, .ref (a 20))]) hx hb d_law_509 hl (k := 3) rfl rfl (by decide) rfl (fun ls hl => ?_)
        refine lv_goto (tgt := 18) hx hb d_law_512 (by decide) ?_
        exact hrec18 _ _ _ _ _ _ _ _ _ _ _ _ _ _ _ _ _ _ _ _ _ _ _ _ _ _ _ _ h _ _ _ hP hD hS (lv_sub hl [1, 2, 3, 0] rfl)
      · have h := ite_F c_83 h
        refine lv_iconst (v := 0) hx hb d_law_507 (by decide) ?_
        exact absurd h (by decide)
    have h := ite_F c_76 h
    refine lv_tableOut (tgt := 509) hx hb d_law_33 (by have q0 : ¬ ((xs x3.toNatClampNeg) &&& (15 : Int32)).toInt = 0 := sw_ne c_3; have q1 : ¬ ((xs x3.toNatClampNeg) &&& (15 : Int32)).toInt = 1 := sw_ne c_17; have q2 : ¬ ((xs x3.toNatClampNeg) &&& (15 : Int32)).toInt = 2 := sw_ne c_23; have q3 : ¬ ((xs x3.toNatClampNeg) &&& (15 : Int32)).toInt = 3 := sw_ne c_27; have q4 : ¬ ((xs x3.toNatClampNeg) &&& (15 : Int32)).toInt = 4 := sw_ne c_31; have q5 : ¬ ((xs x3.toNatClampNeg) &&& (15 : Int32)).toInt = 5 := sw_ne c_37; have q6 : ¬ ((xs x3.toNatClampNeg) &&& (15 : Int32)).toInt = 6 := sw_ne c_43; have q7 : ¬ ((xs x3.toNatClampNeg) &&& (15 : Int32)).toInt = 7 := sw_ne c_49; have q8 : ¬ ((xs x3.toNatClampNeg) &&& (15 : Int32)).toInt = 8 := sw_ne c_52; have q9 : ¬ ((xs x3.toNatClampNeg) &&& (15 : Int32)).toInt = 9 := sw_ne c_58; have q10 : ¬ ((xs x3.toNatClampNeg) &&& (15 : Int32)).toInt = 10 := sw_ne c_66; have q11 : ¬ ((xs x3.toNatClampNeg) &&& (15 : Int32)).toInt = 11 := sw_ne c_70; have q12 : ¬ ((xs x3.toNatClampNeg) &&& (15 : Int32)).toInt = 12 := sw_ne c_76; omega) (by decide) ?_
    refine lv_iinc (v := x3 + 6) (lv' := [(3, .int (x3 + 6)), (0, .ref b), (1, .ref (a 0)), (2, .ref (a 20))]) hx hb d_law_509 hl (k := 3) rfl rfl (by decide) rfl (fun ls hl => ?_)
    refine lv_goto (tgt := 18) hx hb d_law_512 (by decide) ?_
    exact hrec18 _ _ _ _ _ _ _ _ _ _ _ _ _ _ _ _ _ _ _ _ _ _ _ _ _ _ _ _ h _ _ _ hP hD hS (lv_sub hl [1, 2, 3, 0] rfl)
theorem k_law_18_L {p : Program} {l : Launch} {e : Env} {s : State} {m : MethodId} {below : List Frame} {meth : Method} {c : Code} {D : va_G} {A : Nat → Prop} {a : Nat → Nat} {k : Nat → ClassId} {b L : Nat} {xs : Nat → Int32} {mh : Int32} (C : cxL D [(k 1, .int), (k 2, .int), (k 3, .int), (k 4, .int), (k 5, .boolean), (k 6, .int), (k 8, .int), (k 9, .int), (k 11, .long), (k 21, .int), (k 22, .int), (k 23, .int), (k 24, .boolean), (k 25, .boolean), (k 26, .long), (k 27, .int), (k 28, .long), (k 29, .int)] A p s m meth c b L xs) : ∀ n : Nat, H_law_18 p l e s m below meth c D A a k b L xs mh (L_law_18 xs L n)
  | 0 => fun _ _ _ _ _ _ _ _ _ _ _ _ _ _ _ _ _ _ _ _ _ _ _ _ _ _ _ _ h => nomatch h
  | n + 1 => k_law_18 C (k_law_18_L C n)
