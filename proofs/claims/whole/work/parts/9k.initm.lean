/-! ===== the model's constructor, step by step ===== -/
def zms0 : Sto := iM
def zms1 : Sto := (2, va_up zms0.2 1 (.inl (0, 2000, .inl (fun _ => 0))))
def zms2 : Sto := (2, va_up zms1.2 0 (.inr (12, [.int 0, .ref 1, .int 0, .null, .int 0, .null, .null, .null, .null, .null, .int 0, .int 0, .int 0, .int 0, .int 0, .int 0, .int 0, .int 0, .int 0, .int 0, .int 0, .null, .null, .null, .null, .null, .null, .null, .null, .null, .null, .null, .null, .int 0, .null, .null, .null, .null, .null, .int 0, .null, .null, .null, .int 0, .null, .null, .int 0, .null, .null, .int 0, .int 0, .int 0, .null, .null, .null, .int 0, .null, .null, .long 0, .long 0, .int 0, .null, .int 0, .null, .null, .null, .null, .null, .null])))
def zms3 : Sto := (3, va_up zms2.2 2 (.inl (0, 2000, .inl (fun _ => 0))))
def zms4 : Sto := (3, va_up zms3.2 0 (.inr (12, [.int 0, .ref 1, .int 0, .ref 2, .int 0, .null, .null, .null, .null, .null, .int 0, .int 0, .int 0, .int 0, .int 0, .int 0, .int 0, .int 0, .int 0, .int 0, .int 0, .null, .null, .null, .null, .null, .null, .null, .null, .null, .null, .null, .null, .int 0, .null, .null, .null, .null, .null, .int 0, .null, .null, .null, .int 0, .null, .null, .int 0, .null, .null, .int 0, .int 0, .int 0, .null, .null, .null, .int 0, .null, .null, .long 0, .long 0, .int 0, .null, .int 0, .null, .null, .null, .null, .null, .null])))
def zms5 : Sto := (4, va_up zms4.2 3 (.inl (2, 403, .inl (fun _ => 0))))
def zms6 : Sto := (4, va_up zms5.2 0 (.inr (12, [.int 0, .ref 1, .int 0, .ref 2, .int 0, .ref 3, .null, .null, .null, .null, .int 0, .int 0, .int 0, .int 0, .int 0, .int 0, .int 0, .int 0, .int 0, .int 0, .int 0, .null, .null, .null, .null, .null, .null, .null, .null, .null, .null, .null, .null, .int 0, .null, .null, .null, .null, .null, .int 0, .null, .null, .null, .int 0, .null, .null, .int 0, .null, .null, .int 0, .int 0, .int 0, .null, .null, .null, .int 0, .null, .null, .long 0, .long 0, .int 0, .null, .int 0, .null, .null, .null, .null, .null, .null])))
def zms7 : Sto := (5, va_up zms6.2 4 (.inl (2, 403, .inl (fun _ => 0))))
def zms8 : Sto := (5, va_up zms7.2 0 (.inr (12, [.int 0, .ref 1, .int 0, .ref 2, .int 0, .ref 3, .ref 4, .null, .null, .null, .int 0, .int 0, .int 0, .int 0, .int 0, .int 0, .int 0, .int 0, .int 0, .int 0, .int 0, .null, .null, .null, .null, .null, .null, .null, .null, .null, .null, .null, .null, .int 0, .null, .null, .null, .null, .null, .int 0, .null, .null, .null, .int 0, .null, .null, .int 0, .null, .null, .int 0, .int 0, .int 0, .null, .null, .null, .int 0, .null, .null, .long 0, .long 0, .int 0, .null, .int 0, .null, .null, .null, .null, .null, .null])))
def zms9 : Sto := (6, va_up zms8.2 5 (.inl (2, 403, .inl (fun _ => 0))))
def zms10 : Sto := (6, va_up zms9.2 0 (.inr (12, [.int 0, .ref 1, .int 0, .ref 2, .int 0, .ref 3, .ref 4, .ref 5, .null, .null, .int 0, .int 0, .int 0, .int 0, .int 0, .int 0, .int 0, .int 0, .int 0, .int 0, .int 0, .null, .null, .null, .null, .null, .null, .null, .null, .null, .null, .null, .null, .int 0, .null, .null, .null, .null, .null, .int 0, .null, .null, .null, .int 0, .null, .null, .int 0, .null, .null, .int 0, .int 0, .int 0, .null, .null, .null, .int 0, .null, .null, .long 0, .long 0, .int 0, .null, .int 0, .null, .null, .null, .null, .null, .null])))
def zms11 : Sto := (7, va_up zms10.2 6 (.inl (3, 403, .inr (.inl (fun _ => 0)))))
def zms12 : Sto := (7, va_up zms11.2 0 (.inr (12, [.int 0, .ref 1, .int 0, .ref 2, .int 0, .ref 3, .ref 4, .ref 5, .ref 6, .null, .int 0, .int 0, .int 0, .int 0, .int 0, .int 0, .int 0, .int 0, .int 0, .int 0, .int 0, .null, .null, .null, .null, .null, .null, .null, .null, .null, .null, .null, .null, .int 0, .null, .null, .null, .null, .null, .int 0, .null, .null, .null, .int 0, .null, .null, .int 0, .null, .null, .int 0, .int 0, .int 0, .null, .null, .null, .int 0, .null, .null, .long 0, .long 0, .int 0, .null, .int 0, .null, .null, .null, .null, .null, .null])))
def zms13 : Sto := (8, va_up zms12.2 7 (.inl (3, 16, .inr (.inl (fun _ => 0)))))
def zms14 : Sto := (8, va_up zms13.2 0 (.inr (12, [.int 0, .ref 1, .int 0, .ref 2, .int 0, .ref 3, .ref 4, .ref 5, .ref 6, .ref 7, .int 0, .int 0, .int 0, .int 0, .int 0, .int 0, .int 0, .int 0, .int 0, .int 0, .int 0, .null, .null, .null, .null, .null, .null, .null, .null, .null, .null, .null, .null, .int 0, .null, .null, .null, .null, .null, .int 0, .null, .null, .null, .int 0, .null, .null, .int 0, .null, .null, .int 0, .int 0, .int 0, .null, .null, .null, .int 0, .null, .null, .long 0, .long 0, .int 0, .null, .int 0, .null, .null, .null, .null, .null, .null])))
def zms15 : Sto := (8, va_up zms14.2 0 (.inr (12, [.int 0, .ref 1, .int 0, .ref 2, .int 0, .ref 3, .ref 4, .ref 5, .ref 6, .ref 7, .int 0, .int 0, .int 0, .int 0, .int 0, .int 0, .int 0, .int (-1), .int 0, .int 0, .int 0, .null, .null, .null, .null, .null, .null, .null, .null, .null, .null, .null, .null, .int 0, .null, .null, .null, .null, .null, .int 0, .null, .null, .null, .int 0, .null, .null, .int 0, .null, .null, .int 0, .int 0, .int 0, .null, .null, .null, .int 0, .null, .null, .long 0, .long 0, .int 0, .null, .int 0, .null, .null, .null, .null, .null, .null])))
def zms16 : Sto := (9, va_up zms15.2 8 (.inl (3, 6, .inr (.inl (fun _ => 0)))))
def zms17 : Sto := (9, va_up zms16.2 0 (.inr (12, [.int 0, .ref 1, .int 0, .ref 2, .int 0, .ref 3, .ref 4, .ref 5, .ref 6, .ref 7, .int 0, .int 0, .int 0, .int 0, .int 0, .int 0, .int 0, .int (-1), .int 0, .int 0, .int 0, .ref 8, .null, .null, .null, .null, .null, .null, .null, .null, .null, .null, .null, .int 0, .null, .null, .null, .null, .null, .int 0, .null, .null, .null, .int 0, .null, .null, .int 0, .null, .null, .int 0, .int 0, .int 0, .null, .null, .null, .int 0, .null, .null, .long 0, .long 0, .int 0, .null, .int 0, .null, .null, .null, .null, .null, .null])))
def zms18 : Sto := (10, va_up zms17.2 9 (.inl (2, 2, .inl (fun _ => 0))))
def zms19 : Sto := (10, va_up zms18.2 0 (.inr (12, [.int 0, .ref 1, .int 0, .ref 2, .int 0, .ref 3, .ref 4, .ref 5, .ref 6, .ref 7, .int 0, .int 0, .int 0, .int 0, .int 0, .int 0, .int 0, .int (-1), .int 0, .int 0, .int 0, .ref 8, .ref 9, .null, .null, .null, .null, .null, .null, .null, .null, .null, .null, .int 0, .null, .null, .null, .null, .null, .int 0, .null, .null, .null, .int 0, .null, .null, .int 0, .null, .null, .int 0, .int 0, .int 0, .null, .null, .null, .int 0, .null, .null, .long 0, .long 0, .int 0, .null, .int 0, .null, .null, .null, .null, .null, .null])))
def zms20 : Sto := (11, va_up zms19.2 10 (.inl (2, 12, .inl (fun _ => 0))))
def zms21 : Sto := (11, va_up zms20.2 0 (.inr (12, [.int 0, .ref 1, .int 0, .ref 2, .int 0, .ref 3, .ref 4, .ref 5, .ref 6, .ref 7, .int 0, .int 0, .int 0, .int 0, .int 0, .int 0, .int 0, .int (-1), .int 0, .int 0, .int 0, .ref 8, .ref 9, .ref 10, .null, .null, .null, .null, .null, .null, .null, .null, .null, .int 0, .null, .null, .null, .null, .null, .int 0, .null, .null, .null, .int 0, .null, .null, .int 0, .null, .null, .int 0, .int 0, .int 0, .null, .null, .null, .int 0, .null, .null, .long 0, .long 0, .int 0, .null, .int 0, .null, .null, .null, .null, .null, .null])))
def zms22 : Sto := (12, va_up zms21.2 11 (.inl (2, 12, .inl (fun _ => 0))))
def zms23 : Sto := (12, va_up zms22.2 0 (.inr (12, [.int 0, .ref 1, .int 0, .ref 2, .int 0, .ref 3, .ref 4, .ref 5, .ref 6, .ref 7, .int 0, .int 0, .int 0, .int 0, .int 0, .int 0, .int 0, .int (-1), .int 0, .int 0, .int 0, .ref 8, .ref 9, .ref 10, .ref 11, .null, .null, .null, .null, .null, .null, .null, .null, .int 0, .null, .null, .null, .null, .null, .int 0, .null, .null, .null, .int 0, .null, .null, .int 0, .null, .null, .int 0, .int 0, .int 0, .null, .null, .null, .int 0, .null, .null, .long 0, .long 0, .int 0, .null, .int 0, .null, .null, .null, .null, .null, .null])))
def zms24 : Sto := (13, va_up zms23.2 12 (.inl (2, 2, .inl (fun _ => 0))))
def zms25 : Sto := (13, va_up zms24.2 0 (.inr (12, [.int 0, .ref 1, .int 0, .ref 2, .int 0, .ref 3, .ref 4, .ref 5, .ref 6, .ref 7, .int 0, .int 0, .int 0, .int 0, .int 0, .int 0, .int 0, .int (-1), .int 0, .int 0, .int 0, .ref 8, .ref 9, .ref 10, .ref 11, .ref 12, .null, .null, .null, .null, .null, .null, .null, .int 0, .null, .null, .null, .null, .null, .int 0, .null, .null, .null, .int 0, .null, .null, .int 0, .null, .null, .int 0, .int 0, .int 0, .null, .null, .null, .int 0, .null, .null, .long 0, .long 0, .int 0, .null, .int 0, .null, .null, .null, .null, .null, .null])))
def zms26 : Sto := (14, va_up zms25.2 13 (.inl (2, 2, .inl (fun _ => 0))))
def zms27 : Sto := (14, va_up zms26.2 0 (.inr (12, [.int 0, .ref 1, .int 0, .ref 2, .int 0, .ref 3, .ref 4, .ref 5, .ref 6, .ref 7, .int 0, .int 0, .int 0, .int 0, .int 0, .int 0, .int 0, .int (-1), .int 0, .int 0, .int 0, .ref 8, .ref 9, .ref 10, .ref 11, .ref 12, .ref 13, .null, .null, .null, .null, .null, .null, .int 0, .null, .null, .null, .null, .null, .int 0, .null, .null, .null, .int 0, .null, .null, .int 0, .null, .null, .int 0, .int 0, .int 0, .null, .null, .null, .int 0, .null, .null, .long 0, .long 0, .int 0, .null, .int 0, .null, .null, .null, .null, .null, .null])))
def zms28 : Sto := (15, va_up zms27.2 14 (.inl (2, 12, .inl (fun _ => 0))))
def zms29 : Sto := (15, va_up zms28.2 0 (.inr (12, [.int 0, .ref 1, .int 0, .ref 2, .int 0, .ref 3, .ref 4, .ref 5, .ref 6, .ref 7, .int 0, .int 0, .int 0, .int 0, .int 0, .int 0, .int 0, .int (-1), .int 0, .int 0, .int 0, .ref 8, .ref 9, .ref 10, .ref 11, .ref 12, .ref 13, .ref 14, .null, .null, .null, .null, .null, .int 0, .null, .null, .null, .null, .null, .int 0, .null, .null, .null, .int 0, .null, .null, .int 0, .null, .null, .int 0, .int 0, .int 0, .null, .null, .null, .int 0, .null, .null, .long 0, .long 0, .int 0, .null, .int 0, .null, .null, .null, .null, .null, .null])))
def zms30 : Sto := (16, va_up zms29.2 15 (.inl (2, 12, .inl (fun _ => 0))))
def zms31 : Sto := (16, va_up zms30.2 0 (.inr (12, [.int 0, .ref 1, .int 0, .ref 2, .int 0, .ref 3, .ref 4, .ref 5, .ref 6, .ref 7, .int 0, .int 0, .int 0, .int 0, .int 0, .int 0, .int 0, .int (-1), .int 0, .int 0, .int 0, .ref 8, .ref 9, .ref 10, .ref 11, .ref 12, .ref 13, .ref 14, .ref 15, .null, .null, .null, .null, .int 0, .null, .null, .null, .null, .null, .int 0, .null, .null, .null, .int 0, .null, .null, .int 0, .null, .null, .int 0, .int 0, .int 0, .null, .null, .null, .int 0, .null, .null, .long 0, .long 0, .int 0, .null, .int 0, .null, .null, .null, .null, .null, .null])))
def zms32 : Sto := (17, va_up zms31.2 16 (.inl (2, 12, .inl (fun _ => 0))))
def zms33 : Sto := (17, va_up zms32.2 0 (.inr (12, [.int 0, .ref 1, .int 0, .ref 2, .int 0, .ref 3, .ref 4, .ref 5, .ref 6, .ref 7, .int 0, .int 0, .int 0, .int 0, .int 0, .int 0, .int 0, .int (-1), .int 0, .int 0, .int 0, .ref 8, .ref 9, .ref 10, .ref 11, .ref 12, .ref 13, .ref 14, .ref 15, .ref 16, .null, .null, .null, .int 0, .null, .null, .null, .null, .null, .int 0, .null, .null, .null, .int 0, .null, .null, .int 0, .null, .null, .int 0, .int 0, .int 0, .null, .null, .null, .int 0, .null, .null, .long 0, .long 0, .int 0, .null, .int 0, .null, .null, .null, .null, .null, .null])))
def zms34 : Sto := (18, va_up zms33.2 17 (.inl (2, 40, .inl (fun _ => 0))))
def zms35 : Sto := (18, va_up zms34.2 0 (.inr (12, [.int 0, .ref 1, .int 0, .ref 2, .int 0, .ref 3, .ref 4, .ref 5, .ref 6, .ref 7, .int 0, .int 0, .int 0, .int 0, .int 0, .int 0, .int 0, .int (-1), .int 0, .int 0, .int 0, .ref 8, .ref 9, .ref 10, .ref 11, .ref 12, .ref 13, .ref 14, .ref 15, .ref 16, .ref 17, .null, .null, .int 0, .null, .null, .null, .null, .null, .int 0, .null, .null, .null, .int 0, .null, .null, .int 0, .null, .null, .int 0, .int 0, .int 0, .null, .null, .null, .int 0, .null, .null, .long 0, .long 0, .int 0, .null, .int 0, .null, .null, .null, .null, .null, .null])))
def zms36 : Sto := (19, va_up zms35.2 18 (.inl (2, 12, .inl (fun _ => 0))))
def zms37 : Sto := (19, va_up zms36.2 0 (.inr (12, [.int 0, .ref 1, .int 0, .ref 2, .int 0, .ref 3, .ref 4, .ref 5, .ref 6, .ref 7, .int 0, .int 0, .int 0, .int 0, .int 0, .int 0, .int 0, .int (-1), .int 0, .int 0, .int 0, .ref 8, .ref 9, .ref 10, .ref 11, .ref 12, .ref 13, .ref 14, .ref 15, .ref 16, .ref 17, .ref 18, .null, .int 0, .null, .null, .null, .null, .null, .int 0, .null, .null, .null, .int 0, .null, .null, .int 0, .null, .null, .int 0, .int 0, .int 0, .null, .null, .null, .int 0, .null, .null, .long 0, .long 0, .int 0, .null, .int 0, .null, .null, .null, .null, .null, .null])))
def zms38 : Sto := (20, va_up zms37.2 19 (.inl (2, 12, .inl (fun _ => 0))))
def zms39 : Sto := (20, va_up zms38.2 0 (.inr (12, [.int 0, .ref 1, .int 0, .ref 2, .int 0, .ref 3, .ref 4, .ref 5, .ref 6, .ref 7, .int 0, .int 0, .int 0, .int 0, .int 0, .int 0, .int 0, .int (-1), .int 0, .int 0, .int 0, .ref 8, .ref 9, .ref 10, .ref 11, .ref 12, .ref 13, .ref 14, .ref 15, .ref 16, .ref 17, .ref 18, .ref 19, .int 0, .null, .null, .null, .null, .null, .int 0, .null, .null, .null, .int 0, .null, .null, .int 0, .null, .null, .int 0, .int 0, .int 0, .null, .null, .null, .int 0, .null, .null, .long 0, .long 0, .int 0, .null, .int 0, .null, .null, .null, .null, .null, .null])))
def zms40 : Sto := (21, va_up zms39.2 20 (.inl (4, 260, .inl (fun _ => 0))))
def zms41 : Sto := (21, va_up zms40.2 0 (.inr (12, [.int 0, .ref 1, .int 0, .ref 2, .int 0, .ref 3, .ref 4, .ref 5, .ref 6, .ref 7, .int 0, .int 0, .int 0, .int 0, .int 0, .int 0, .int 0, .int (-1), .int 0, .int 0, .int 0, .ref 8, .ref 9, .ref 10, .ref 11, .ref 12, .ref 13, .ref 14, .ref 15, .ref 16, .ref 17, .ref 18, .ref 19, .int 0, .ref 20, .null, .null, .null, .null, .int 0, .null, .null, .null, .int 0, .null, .null, .int 0, .null, .null, .int 0, .int 0, .int 0, .null, .null, .null, .int 0, .null, .null, .long 0, .long 0, .int 0, .null, .int 0, .null, .null, .null, .null, .null, .null])))
def zms42 : Sto := (22, va_up zms41.2 21 (.inl (2, 260, .inl (fun _ => 0))))
def zms43 : Sto := (22, va_up zms42.2 0 (.inr (12, [.int 0, .ref 1, .int 0, .ref 2, .int 0, .ref 3, .ref 4, .ref 5, .ref 6, .ref 7, .int 0, .int 0, .int 0, .int 0, .int 0, .int 0, .int 0, .int (-1), .int 0, .int 0, .int 0, .ref 8, .ref 9, .ref 10, .ref 11, .ref 12, .ref 13, .ref 14, .ref 15, .ref 16, .ref 17, .ref 18, .ref 19, .int 0, .ref 20, .ref 21, .null, .null, .null, .int 0, .null, .null, .null, .int 0, .null, .null, .int 0, .null, .null, .int 0, .int 0, .int 0, .null, .null, .null, .int 0, .null, .null, .long 0, .long 0, .int 0, .null, .int 0, .null, .null, .null, .null, .null, .null])))
def zms44 : Sto := (23, va_up zms43.2 22 (.inl (2, 260, .inl (fun _ => 0))))
def zms45 : Sto := (23, va_up zms44.2 0 (.inr (12, [.int 0, .ref 1, .int 0, .ref 2, .int 0, .ref 3, .ref 4, .ref 5, .ref 6, .ref 7, .int 0, .int 0, .int 0, .int 0, .int 0, .int 0, .int 0, .int (-1), .int 0, .int 0, .int 0, .ref 8, .ref 9, .ref 10, .ref 11, .ref 12, .ref 13, .ref 14, .ref 15, .ref 16, .ref 17, .ref 18, .ref 19, .int 0, .ref 20, .ref 21, .ref 22, .null, .null, .int 0, .null, .null, .null, .int 0, .null, .null, .int 0, .null, .null, .int 0, .int 0, .int 0, .null, .null, .null, .int 0, .null, .null, .long 0, .long 0, .int 0, .null, .int 0, .null, .null, .null, .null, .null, .null])))
def zms46 : Sto := (24, va_up zms45.2 23 (.inl (2, 260, .inl (fun _ => 0))))
def zms47 : Sto := (24, va_up zms46.2 0 (.inr (12, [.int 0, .ref 1, .int 0, .ref 2, .int 0, .ref 3, .ref 4, .ref 5, .ref 6, .ref 7, .int 0, .int 0, .int 0, .int 0, .int 0, .int 0, .int 0, .int (-1), .int 0, .int 0, .int 0, .ref 8, .ref 9, .ref 10, .ref 11, .ref 12, .ref 13, .ref 14, .ref 15, .ref 16, .ref 17, .ref 18, .ref 19, .int 0, .ref 20, .ref 21, .ref 22, .ref 23, .null, .int 0, .null, .null, .null, .int 0, .null, .null, .int 0, .null, .null, .int 0, .int 0, .int 0, .null, .null, .null, .int 0, .null, .null, .long 0, .long 0, .int 0, .null, .int 0, .null, .null, .null, .null, .null, .null])))
def zms48 : Sto := (25, va_up zms47.2 24 (.inl (2, 260, .inl (fun _ => 0))))
def zms49 : Sto := (25, va_up zms48.2 0 (.inr (12, [.int 0, .ref 1, .int 0, .ref 2, .int 0, .ref 3, .ref 4, .ref 5, .ref 6, .ref 7, .int 0, .int 0, .int 0, .int 0, .int 0, .int 0, .int 0, .int (-1), .int 0, .int 0, .int 0, .ref 8, .ref 9, .ref 10, .ref 11, .ref 12, .ref 13, .ref 14, .ref 15, .ref 16, .ref 17, .ref 18, .ref 19, .int 0, .ref 20, .ref 21, .ref 22, .ref 23, .ref 24, .int 0, .null, .null, .null, .int 0, .null, .null, .int 0, .null, .null, .int 0, .int 0, .int 0, .null, .null, .null, .int 0, .null, .null, .long 0, .long 0, .int 0, .null, .int 0, .null, .null, .null, .null, .null, .null])))
def zms50 : Sto := (26, va_up zms49.2 25 (.inl (2, 840, .inl (fun _ => 0))))
def zms51 : Sto := (26, va_up zms50.2 0 (.inr (12, [.int 0, .ref 1, .int 0, .ref 2, .int 0, .ref 3, .ref 4, .ref 5, .ref 6, .ref 7, .int 0, .int 0, .int 0, .int 0, .int 0, .int 0, .int 0, .int (-1), .int 0, .int 0, .int 0, .ref 8, .ref 9, .ref 10, .ref 11, .ref 12, .ref 13, .ref 14, .ref 15, .ref 16, .ref 17, .ref 18, .ref 19, .int 0, .ref 20, .ref 21, .ref 22, .ref 23, .ref 24, .int 0, .ref 25, .null, .null, .int 0, .null, .null, .int 0, .null, .null, .int 0, .int 0, .int 0, .null, .null, .null, .int 0, .null, .null, .long 0, .long 0, .int 0, .null, .int 0, .null, .null, .null, .null, .null, .null])))
def zms52 : Sto := (27, va_up zms51.2 26 (.inl (2, 840, .inl (fun _ => 0))))
def zms53 : Sto := (27, va_up zms52.2 0 (.inr (12, [.int 0, .ref 1, .int 0, .ref 2, .int 0, .ref 3, .ref 4, .ref 5, .ref 6, .ref 7, .int 0, .int 0, .int 0, .int 0, .int 0, .int 0, .int 0, .int (-1), .int 0, .int 0, .int 0, .ref 8, .ref 9, .ref 10, .ref 11, .ref 12, .ref 13, .ref 14, .ref 15, .ref 16, .ref 17, .ref 18, .ref 19, .int 0, .ref 20, .ref 21, .ref 22, .ref 23, .ref 24, .int 0, .ref 25, .ref 26, .null, .int 0, .null, .null, .int 0, .null, .null, .int 0, .int 0, .int 0, .null, .null, .null, .int 0, .null, .null, .long 0, .long 0, .int 0, .null, .int 0, .null, .null, .null, .null, .null, .null])))
def zms54 : Sto := (28, va_up zms53.2 27 (.inl (2, 64, .inl (fun _ => 0))))
def zms55 : Sto := (28, va_up zms54.2 0 (.inr (12, [.int 0, .ref 1, .int 0, .ref 2, .int 0, .ref 3, .ref 4, .ref 5, .ref 6, .ref 7, .int 0, .int 0, .int 0, .int 0, .int 0, .int 0, .int 0, .int (-1), .int 0, .int 0, .int 0, .ref 8, .ref 9, .ref 10, .ref 11, .ref 12, .ref 13, .ref 14, .ref 15, .ref 16, .ref 17, .ref 18, .ref 19, .int 0, .ref 20, .ref 21, .ref 22, .ref 23, .ref 24, .int 0, .ref 25, .ref 26, .ref 27, .int 0, .null, .null, .int 0, .null, .null, .int 0, .int 0, .int 0, .null, .null, .null, .int 0, .null, .null, .long 0, .long 0, .int 0, .null, .int 0, .null, .null, .null, .null, .null, .null])))
def zms56 : Sto := (29, va_up zms55.2 28 (.inl (2, 5, .inl (fun _ => 0))))
def zms57 : Sto := (29, va_up zms56.2 0 (.inr (12, [.int 0, .ref 1, .int 0, .ref 2, .int 0, .ref 3, .ref 4, .ref 5, .ref 6, .ref 7, .int 0, .int 0, .int 0, .int 0, .int 0, .int 0, .int 0, .int (-1), .int 0, .int 0, .int 0, .ref 8, .ref 9, .ref 10, .ref 11, .ref 12, .ref 13, .ref 14, .ref 15, .ref 16, .ref 17, .ref 18, .ref 19, .int 0, .ref 20, .ref 21, .ref 22, .ref 23, .ref 24, .int 0, .ref 25, .ref 26, .ref 27, .int 0, .ref 28, .null, .int 0, .null, .null, .int 0, .int 0, .int 0, .null, .null, .null, .int 0, .null, .null, .long 0, .long 0, .int 0, .null, .int 0, .null, .null, .null, .null, .null, .null])))
def zms58 : Sto := (30, va_up zms57.2 29 (.inl (2, 400, .inl (fun _ => 0))))
def zms59 : Sto := (30, va_up zms58.2 0 (.inr (12, [.int 0, .ref 1, .int 0, .ref 2, .int 0, .ref 3, .ref 4, .ref 5, .ref 6, .ref 7, .int 0, .int 0, .int 0, .int 0, .int 0, .int 0, .int 0, .int (-1), .int 0, .int 0, .int 0, .ref 8, .ref 9, .ref 10, .ref 11, .ref 12, .ref 13, .ref 14, .ref 15, .ref 16, .ref 17, .ref 18, .ref 19, .int 0, .ref 20, .ref 21, .ref 22, .ref 23, .ref 24, .int 0, .ref 25, .ref 26, .ref 27, .int 0, .ref 28, .ref 29, .int 0, .null, .null, .int 0, .int 0, .int 0, .null, .null, .null, .int 0, .null, .null, .long 0, .long 0, .int 0, .null, .int 0, .null, .null, .null, .null, .null, .null])))
def zms60 : Sto := (31, va_up zms59.2 30 (.inl (2, 20, .inl (fun _ => 0))))
def zms61 : Sto := (31, va_up zms60.2 0 (.inr (12, [.int 0, .ref 1, .int 0, .ref 2, .int 0, .ref 3, .ref 4, .ref 5, .ref 6, .ref 7, .int 0, .int 0, .int 0, .int 0, .int 0, .int 0, .int 0, .int (-1), .int 0, .int 0, .int 0, .ref 8, .ref 9, .ref 10, .ref 11, .ref 12, .ref 13, .ref 14, .ref 15, .ref 16, .ref 17, .ref 18, .ref 19, .int 0, .ref 20, .ref 21, .ref 22, .ref 23, .ref 24, .int 0, .ref 25, .ref 26, .ref 27, .int 0, .ref 28, .ref 29, .int 0, .ref 30, .null, .int 0, .int 0, .int 0, .null, .null, .null, .int 0, .null, .null, .long 0, .long 0, .int 0, .null, .int 0, .null, .null, .null, .null, .null, .null])))
def zms62 : Sto := (32, va_up zms61.2 31 (.inl (2, 20, .inl (fun _ => 0))))
def zms63 : Sto := (32, va_up zms62.2 0 (.inr (12, [.int 0, .ref 1, .int 0, .ref 2, .int 0, .ref 3, .ref 4, .ref 5, .ref 6, .ref 7, .int 0, .int 0, .int 0, .int 0, .int 0, .int 0, .int 0, .int (-1), .int 0, .int 0, .int 0, .ref 8, .ref 9, .ref 10, .ref 11, .ref 12, .ref 13, .ref 14, .ref 15, .ref 16, .ref 17, .ref 18, .ref 19, .int 0, .ref 20, .ref 21, .ref 22, .ref 23, .ref 24, .int 0, .ref 25, .ref 26, .ref 27, .int 0, .ref 28, .ref 29, .int 0, .ref 30, .ref 31, .int 0, .int 0, .int 0, .null, .null, .null, .int 0, .null, .null, .long 0, .long 0, .int 0, .null, .int 0, .null, .null, .null, .null, .null, .null])))
def zms64 : Sto := (33, va_up zms63.2 32 (.inl (2, 6, .inl (fun _ => 0))))
def zms65 : Sto := (33, va_up zms64.2 0 (.inr (12, [.int 0, .ref 1, .int 0, .ref 2, .int 0, .ref 3, .ref 4, .ref 5, .ref 6, .ref 7, .int 0, .int 0, .int 0, .int 0, .int 0, .int 0, .int 0, .int (-1), .int 0, .int 0, .int 0, .ref 8, .ref 9, .ref 10, .ref 11, .ref 12, .ref 13, .ref 14, .ref 15, .ref 16, .ref 17, .ref 18, .ref 19, .int 0, .ref 20, .ref 21, .ref 22, .ref 23, .ref 24, .int 0, .ref 25, .ref 26, .ref 27, .int 0, .ref 28, .ref 29, .int 0, .ref 30, .ref 31, .int 0, .int 0, .int 0, .ref 32, .null, .null, .int 0, .null, .null, .long 0, .long 0, .int 0, .null, .int 0, .null, .null, .null, .null, .null, .null])))
def zms66 : Sto := (34, va_up zms65.2 33 (.inl (3, 6, .inr (.inl (fun _ => 0)))))
def zms67 : Sto := (34, va_up zms66.2 0 (.inr (12, [.int 0, .ref 1, .int 0, .ref 2, .int 0, .ref 3, .ref 4, .ref 5, .ref 6, .ref 7, .int 0, .int 0, .int 0, .int 0, .int 0, .int 0, .int 0, .int (-1), .int 0, .int 0, .int 0, .ref 8, .ref 9, .ref 10, .ref 11, .ref 12, .ref 13, .ref 14, .ref 15, .ref 16, .ref 17, .ref 18, .ref 19, .int 0, .ref 20, .ref 21, .ref 22, .ref 23, .ref 24, .int 0, .ref 25, .ref 26, .ref 27, .int 0, .ref 28, .ref 29, .int 0, .ref 30, .ref 31, .int 0, .int 0, .int 0, .ref 32, .ref 33, .null, .int 0, .null, .null, .long 0, .long 0, .int 0, .null, .int 0, .null, .null, .null, .null, .null, .null])))
def zms68 : Sto := (35, va_up zms67.2 34 (.inl (3, 6, .inr (.inl (fun _ => 0)))))
def zms69 : Sto := (35, va_up zms68.2 0 (.inr (12, [.int 0, .ref 1, .int 0, .ref 2, .int 0, .ref 3, .ref 4, .ref 5, .ref 6, .ref 7, .int 0, .int 0, .int 0, .int 0, .int 0, .int 0, .int 0, .int (-1), .int 0, .int 0, .int 0, .ref 8, .ref 9, .ref 10, .ref 11, .ref 12, .ref 13, .ref 14, .ref 15, .ref 16, .ref 17, .ref 18, .ref 19, .int 0, .ref 20, .ref 21, .ref 22, .ref 23, .ref 24, .int 0, .ref 25, .ref 26, .ref 27, .int 0, .ref 28, .ref 29, .int 0, .ref 30, .ref 31, .int 0, .int 0, .int 0, .ref 32, .ref 33, .ref 34, .int 0, .null, .null, .long 0, .long 0, .int 0, .null, .int 0, .null, .null, .null, .null, .null, .null])))
def zms70 : Sto := (36, va_up zms69.2 35 (.inl (2, 1000, .inl (fun _ => 0))))
def zms71 : Sto := (36, va_up zms70.2 0 (.inr (12, [.int 0, .ref 1, .int 0, .ref 2, .int 0, .ref 3, .ref 4, .ref 5, .ref 6, .ref 7, .int 0, .int 0, .int 0, .int 0, .int 0, .int 0, .int 0, .int (-1), .int 0, .int 0, .int 0, .ref 8, .ref 9, .ref 10, .ref 11, .ref 12, .ref 13, .ref 14, .ref 15, .ref 16, .ref 17, .ref 18, .ref 19, .int 0, .ref 20, .ref 21, .ref 22, .ref 23, .ref 24, .int 0, .ref 25, .ref 26, .ref 27, .int 0, .ref 28, .ref 29, .int 0, .ref 30, .ref 31, .int 0, .int 0, .int 0, .ref 32, .ref 33, .ref 34, .int 0, .ref 35, .null, .long 0, .long 0, .int 0, .null, .int 0, .null, .null, .null, .null, .null, .null])))
def zms72 : Sto := (37, va_up zms71.2 36 (.inl (2, 64, .inl (fun _ => 0))))
def zms73 : Sto := (37, va_up zms72.2 0 (.inr (12, [.int 0, .ref 1, .int 0, .ref 2, .int 0, .ref 3, .ref 4, .ref 5, .ref 6, .ref 7, .int 0, .int 0, .int 0, .int 0, .int 0, .int 0, .int 0, .int (-1), .int 0, .int 0, .int 0, .ref 8, .ref 9, .ref 10, .ref 11, .ref 12, .ref 13, .ref 14, .ref 15, .ref 16, .ref 17, .ref 18, .ref 19, .int 0, .ref 20, .ref 21, .ref 22, .ref 23, .ref 24, .int 0, .ref 25, .ref 26, .ref 27, .int 0, .ref 28, .ref 29, .int 0, .ref 30, .ref 31, .int 0, .int 0, .int 0, .ref 32, .ref 33, .ref 34, .int 0, .ref 35, .ref 36, .long 0, .long 0, .int 0, .null, .int 0, .null, .null, .null, .null, .null, .null])))
def zms74 : Sto := (38, va_up zms73.2 37 (.inl (2, 6, .inl (fun _ => 0))))
def zms75 : Sto := (38, va_up zms74.2 0 (.inr (12, [.int 0, .ref 1, .int 0, .ref 2, .int 0, .ref 3, .ref 4, .ref 5, .ref 6, .ref 7, .int 0, .int 0, .int 0, .int 0, .int 0, .int 0, .int 0, .int (-1), .int 0, .int 0, .int 0, .ref 8, .ref 9, .ref 10, .ref 11, .ref 12, .ref 13, .ref 14, .ref 15, .ref 16, .ref 17, .ref 18, .ref 19, .int 0, .ref 20, .ref 21, .ref 22, .ref 23, .ref 24, .int 0, .ref 25, .ref 26, .ref 27, .int 0, .ref 28, .ref 29, .int 0, .ref 30, .ref 31, .int 0, .int 0, .int 0, .ref 32, .ref 33, .ref 34, .int 0, .ref 35, .ref 36, .long 0, .long 0, .int 0, .ref 37, .int 0, .null, .null, .null, .null, .null, .null])))
def zms76 : Sto := (39, va_up zms75.2 38 (.inl (2, 120, .inl (fun _ => 0))))
def zms77 : Sto := (39, va_up zms76.2 0 (.inr (12, [.int 0, .ref 1, .int 0, .ref 2, .int 0, .ref 3, .ref 4, .ref 5, .ref 6, .ref 7, .int 0, .int 0, .int 0, .int 0, .int 0, .int 0, .int 0, .int (-1), .int 0, .int 0, .int 0, .ref 8, .ref 9, .ref 10, .ref 11, .ref 12, .ref 13, .ref 14, .ref 15, .ref 16, .ref 17, .ref 18, .ref 19, .int 0, .ref 20, .ref 21, .ref 22, .ref 23, .ref 24, .int 0, .ref 25, .ref 26, .ref 27, .int 0, .ref 28, .ref 29, .int 0, .ref 30, .ref 31, .int 0, .int 0, .int 0, .ref 32, .ref 33, .ref 34, .int 0, .ref 35, .ref 36, .long 0, .long 0, .int 0, .ref 37, .int 0, .ref 38, .null, .null, .null, .null, .null])))
def zms78 : Sto := (40, va_up zms77.2 39 (.inl (4, 6, .inl (fun _ => 0))))
def zms79 : Sto := (40, va_up zms78.2 0 (.inr (12, [.int 0, .ref 1, .int 0, .ref 2, .int 0, .ref 3, .ref 4, .ref 5, .ref 6, .ref 7, .int 0, .int 0, .int 0, .int 0, .int 0, .int 0, .int 0, .int (-1), .int 0, .int 0, .int 0, .ref 8, .ref 9, .ref 10, .ref 11, .ref 12, .ref 13, .ref 14, .ref 15, .ref 16, .ref 17, .ref 18, .ref 19, .int 0, .ref 20, .ref 21, .ref 22, .ref 23, .ref 24, .int 0, .ref 25, .ref 26, .ref 27, .int 0, .ref 28, .ref 29, .int 0, .ref 30, .ref 31, .int 0, .int 0, .int 0, .ref 32, .ref 33, .ref 34, .int 0, .ref 35, .ref 36, .long 0, .long 0, .int 0, .ref 37, .int 0, .ref 38, .ref 39, .null, .null, .null, .null])))
def zms80 : Sto := (41, va_up zms79.2 40 (.inl (2, 6, .inl (fun _ => 0))))
def zms81 : Sto := (41, va_up zms80.2 0 (.inr (12, [.int 0, .ref 1, .int 0, .ref 2, .int 0, .ref 3, .ref 4, .ref 5, .ref 6, .ref 7, .int 0, .int 0, .int 0, .int 0, .int 0, .int 0, .int 0, .int (-1), .int 0, .int 0, .int 0, .ref 8, .ref 9, .ref 10, .ref 11, .ref 12, .ref 13, .ref 14, .ref 15, .ref 16, .ref 17, .ref 18, .ref 19, .int 0, .ref 20, .ref 21, .ref 22, .ref 23, .ref 24, .int 0, .ref 25, .ref 26, .ref 27, .int 0, .ref 28, .ref 29, .int 0, .ref 30, .ref 31, .int 0, .int 0, .int 0, .ref 32, .ref 33, .ref 34, .int 0, .ref 35, .ref 36, .long 0, .long 0, .int 0, .ref 37, .int 0, .ref 38, .ref 39, .ref 40, .null, .null, .null])))
def zms82 : Sto := (42, va_up zms81.2 41 (.inl (2, 6, .inl (fun _ => 0))))
def zms83 : Sto := (42, va_up zms82.2 0 (.inr (12, [.int 0, .ref 1, .int 0, .ref 2, .int 0, .ref 3, .ref 4, .ref 5, .ref 6, .ref 7, .int 0, .int 0, .int 0, .int 0, .int 0, .int 0, .int 0, .int (-1), .int 0, .int 0, .int 0, .ref 8, .ref 9, .ref 10, .ref 11, .ref 12, .ref 13, .ref 14, .ref 15, .ref 16, .ref 17, .ref 18, .ref 19, .int 0, .ref 20, .ref 21, .ref 22, .ref 23, .ref 24, .int 0, .ref 25, .ref 26, .ref 27, .int 0, .ref 28, .ref 29, .int 0, .ref 30, .ref 31, .int 0, .int 0, .int 0, .ref 32, .ref 33, .ref 34, .int 0, .ref 35, .ref 36, .long 0, .long 0, .int 0, .ref 37, .int 0, .ref 38, .ref 39, .ref 40, .ref 41, .null, .null])))
def zms84 : Sto := (43, va_up zms83.2 42 (.inl (4, 3, .inl (fun _ => 0))))
def zms85 : Sto := (43, va_up zms84.2 0 (.inr (12, [.int 0, .ref 1, .int 0, .ref 2, .int 0, .ref 3, .ref 4, .ref 5, .ref 6, .ref 7, .int 0, .int 0, .int 0, .int 0, .int 0, .int 0, .int 0, .int (-1), .int 0, .int 0, .int 0, .ref 8, .ref 9, .ref 10, .ref 11, .ref 12, .ref 13, .ref 14, .ref 15, .ref 16, .ref 17, .ref 18, .ref 19, .int 0, .ref 20, .ref 21, .ref 22, .ref 23, .ref 24, .int 0, .ref 25, .ref 26, .ref 27, .int 0, .ref 28, .ref 29, .int 0, .ref 30, .ref 31, .int 0, .int 0, .int 0, .ref 32, .ref 33, .ref 34, .int 0, .ref 35, .ref 36, .long 0, .long 0, .int 0, .ref 37, .int 0, .ref 38, .ref 39, .ref 40, .ref 41, .ref 42, .null])))
def zms86 : Sto := (44, va_up zms85.2 43 (.inl (2, 60, .inl (fun _ => 0))))
def zms87 : Sto := (44, va_up zms86.2 0 (.inr (12, [.int 0, .ref 1, .int 0, .ref 2, .int 0, .ref 3, .ref 4, .ref 5, .ref 6, .ref 7, .int 0, .int 0, .int 0, .int 0, .int 0, .int 0, .int 0, .int (-1), .int 0, .int 0, .int 0, .ref 8, .ref 9, .ref 10, .ref 11, .ref 12, .ref 13, .ref 14, .ref 15, .ref 16, .ref 17, .ref 18, .ref 19, .int 0, .ref 20, .ref 21, .ref 22, .ref 23, .ref 24, .int 0, .ref 25, .ref 26, .ref 27, .int 0, .ref 28, .ref 29, .int 0, .ref 30, .ref 31, .int 0, .int 0, .int 0, .ref 32, .ref 33, .ref 34, .int 0, .ref 35, .ref 36, .long 0, .long 0, .int 0, .ref 37, .int 0, .ref 38, .ref 39, .ref 40, .ref 41, .ref 42, .ref 43])))
def zmf1 : Nat → Int32 := upd (fun _ => 0) 0 100
def zms88 : Sto := (44, va_up zms87.2 12 (.inl (2, 2, .inl zmf1)))
def zmf2 : Nat → Int64 := vp_updL (fun _ => 0) 0 50717
def zms89 : Sto := (44, va_up zms88.2 7 (.inl (3, 16, .inr (.inl zmf2))))
def zmf3 : Nat → Int64 := vp_updL zmf2 1 4351291
def zms90 : Sto := (44, va_up zms89.2 7 (.inl (3, 16, .inr (.inl zmf3))))
def zmf4 : Nat → Int64 := vp_updL zmf3 2 10650290
def zms91 : Sto := (44, va_up zms90.2 7 (.inl (3, 16, .inr (.inl zmf4))))
def zmf5 : Nat → Int64 := vp_updL zmf4 3 321818
def zms92 : Sto := (44, va_up zms91.2 7 (.inl (3, 16, .inr (.inl zmf5))))
def zmf6 : Nat → Int64 := vp_updL zmf5 4 47
def zms93 : Sto := (44, va_up zms92.2 7 (.inl (3, 16, .inr (.inl zmf6))))
def zmf7 : Nat → Int64 := vp_updL zmf6 5 3971731
def zms94 : Sto := (44, va_up zms93.2 7 (.inl (3, 16, .inr (.inl zmf7))))
def zmf8 : Nat → Int64 := vp_updL zmf7 6 4723
def zms95 : Sto := (44, va_up zms94.2 7 (.inl (3, 16, .inr (.inl zmf8))))
def zmf9 : Nat → Int64 := vp_updL zmf8 7 419
def zms96 : Sto := (44, va_up zms95.2 7 (.inl (3, 16, .inr (.inl zmf9))))
def zmf10 : Nat → Int64 := vp_updL zmf9 8 249
def zms97 : Sto := (44, va_up zms96.2 7 (.inl (3, 16, .inr (.inl zmf10))))
def zmf11 : Nat → Int64 := vp_updL zmf10 9 399641
def zms98 : Sto := (44, va_up zms97.2 7 (.inl (3, 16, .inr (.inl zmf11))))
def zmf12 : Nat → Int64 := vp_updL zmf11 10 107681
def zms99 : Sto := (44, va_up zms98.2 7 (.inl (3, 16, .inr (.inl zmf12))))
def zmf13 : Nat → Int64 := vp_updL zmf12 11 247516
def zms100 : Sto := (44, va_up zms99.2 7 (.inl (3, 16, .inr (.inl zmf13))))
def zmf14 : Nat → Int64 := vp_updL zmf13 12 404923
def zms101 : Sto := (44, va_up zms100.2 7 (.inl (3, 16, .inr (.inl zmf14))))
def zmf15 : Nat → Int64 := vp_updL zmf14 13 6491892
def zms102 : Sto := (44, va_up zms101.2 7 (.inl (3, 16, .inr (.inl zmf15))))
def zmf16 : Nat → Int64 := vp_updL zmf15 14 8740067
def zms103 : Sto := (44, va_up zms102.2 7 (.inl (3, 16, .inr (.inl zmf16))))
def zmf17 : Nat → Int64 := vp_updL zmf16 15 582341
def zms104 : Sto := (44, va_up zms103.2 7 (.inl (3, 16, .inr (.inl zmf17))))
set_option maxRecDepth 100000 in
theorem zmt_X12_init_0 : fX12_init 0 zms0 = some ((), zms104) := by
  unfold fX12_init
  refine in_n (S' := zms1) (q := 1) rfl rfl ?_
  refine in_b (x := zms2) rfl ?_
  refine in_n (S' := zms3) (q := 2) rfl rfl ?_
  refine in_b (x := zms4) rfl ?_
  refine in_n (S' := zms5) (q := 3) rfl rfl ?_
  refine in_b (x := zms6) rfl ?_
  refine in_n (S' := zms7) (q := 4) rfl rfl ?_
  refine in_b (x := zms8) rfl ?_
  refine in_n (S' := zms9) (q := 5) rfl rfl ?_
  refine in_b (x := zms10) rfl ?_
  refine in_n (S' := zms11) (q := 6) rfl rfl ?_
  refine in_b (x := zms12) rfl ?_
  refine in_n (S' := zms13) (q := 7) rfl rfl ?_
  refine in_b (x := zms14) rfl ?_
  refine in_b (x := zms15) rfl ?_
  refine in_n (S' := zms16) (q := 8) rfl rfl ?_
  refine in_b (x := zms17) rfl ?_
  refine in_n (S' := zms18) (q := 9) rfl rfl ?_
  refine in_b (x := zms19) rfl ?_
  refine in_n (S' := zms20) (q := 10) rfl rfl ?_
  refine in_b (x := zms21) rfl ?_
  refine in_n (S' := zms22) (q := 11) rfl rfl ?_
  refine in_b (x := zms23) rfl ?_
  refine in_n (S' := zms24) (q := 12) rfl rfl ?_
  refine in_b (x := zms25) rfl ?_
  refine in_n (S' := zms26) (q := 13) rfl rfl ?_
  refine in_b (x := zms27) rfl ?_
  refine in_n (S' := zms28) (q := 14) rfl rfl ?_
  refine in_b (x := zms29) rfl ?_
  refine in_n (S' := zms30) (q := 15) rfl rfl ?_
  refine in_b (x := zms31) rfl ?_
  refine in_n (S' := zms32) (q := 16) rfl rfl ?_
  refine in_b (x := zms33) rfl ?_
  refine in_n (S' := zms34) (q := 17) rfl rfl ?_
  refine in_b (x := zms35) rfl ?_
  refine in_n (S' := zms36) (q := 18) rfl rfl ?_
  refine in_b (x := zms37) rfl ?_
  refine in_n (S' := zms38) (q := 19) rfl rfl ?_
  refine in_b (x := zms39) rfl ?_
  refine in_n (S' := zms40) (q := 20) rfl rfl ?_
  refine in_b (x := zms41) rfl ?_
  refine in_n (S' := zms42) (q := 21) rfl rfl ?_
  refine in_b (x := zms43) rfl ?_
  refine in_n (S' := zms44) (q := 22) rfl rfl ?_
  refine in_b (x := zms45) rfl ?_
  refine in_n (S' := zms46) (q := 23) rfl rfl ?_
  refine in_b (x := zms47) rfl ?_
  refine in_n (S' := zms48) (q := 24) rfl rfl ?_
  refine in_b (x := zms49) rfl ?_
  refine in_n (S' := zms50) (q := 25) rfl rfl ?_
  refine in_b (x := zms51) rfl ?_
  refine in_n (S' := zms52) (q := 26) rfl rfl ?_
  refine in_b (x := zms53) rfl ?_
  refine in_n (S' := zms54) (q := 27) rfl rfl ?_
  refine in_b (x := zms55) rfl ?_
  refine in_n (S' := zms56) (q := 28) rfl rfl ?_
  refine in_b (x := zms57) rfl ?_
  refine in_n (S' := zms58) (q := 29) rfl rfl ?_
  refine in_b (x := zms59) rfl ?_
  refine in_n (S' := zms60) (q := 30) rfl rfl ?_
  refine in_b (x := zms61) rfl ?_
  refine in_n (S' := zms62) (q := 31) rfl rfl ?_
  refine in_b (x := zms63) rfl ?_
  refine in_n (S' := zms64) (q := 32) rfl rfl ?_
  refine in_b (x := zms65) rfl ?_
  refine in_n (S' := zms66) (q := 33) rfl rfl ?_
  refine in_b (x := zms67) rfl ?_
  refine in_n (S' := zms68) (q := 34) rfl rfl ?_
  refine in_b (x := zms69) rfl ?_
  refine in_n (S' := zms70) (q := 35) rfl rfl ?_
  refine in_b (x := zms71) rfl ?_
  refine in_n (S' := zms72) (q := 36) rfl rfl ?_
  refine in_b (x := zms73) rfl ?_
  refine in_n (S' := zms74) (q := 37) rfl rfl ?_
  refine in_b (x := zms75) rfl ?_
  refine in_n (S' := zms76) (q := 38) rfl rfl ?_
  refine in_b (x := zms77) rfl ?_
  refine in_n (S' := zms78) (q := 39) rfl rfl ?_
  refine in_b (x := zms79) rfl ?_
  refine in_n (S' := zms80) (q := 40) rfl rfl ?_
  refine in_b (x := zms81) rfl ?_
  refine in_n (S' := zms82) (q := 41) rfl rfl ?_
  refine in_b (x := zms83) rfl ?_
  refine in_n (S' := zms84) (q := 42) rfl rfl ?_
  refine in_b (x := zms85) rfl ?_
  refine in_n (S' := zms86) (q := 43) rfl rfl ?_
  refine in_b (x := zms87) rfl ?_
  refine in_b (x := 12) rfl ?_
  refine in_b (x := zms88) (hs_sI (j := 0) (n := 2) (f := (fun _ => 0)) rfl (by decide) (by decide) _) ?_
  refine in_b (x := 7) rfl ?_
  refine in_c (x := 50717) (s := zms88) (word_v (by decide +kernel)) ?_
  refine in_b (x := zms89) (hs_sL (j := 0) (n := 16) (f := (fun _ => 0)) rfl (by decide) (by decide) _) ?_
  refine in_b (x := 7) rfl ?_
  refine in_c (x := 4351291) (s := zms89) (word_v (by decide +kernel)) ?_
  refine in_b (x := zms90) (hs_sL (j := 1) (n := 16) (f := zmf2) rfl (by decide) (by decide) _) ?_
  refine in_b (x := 7) rfl ?_
  refine in_c (x := 10650290) (s := zms90) (word_v (by decide +kernel)) ?_
  refine in_b (x := zms91) (hs_sL (j := 2) (n := 16) (f := zmf3) rfl (by decide) (by decide) _) ?_
  refine in_b (x := 7) rfl ?_
  refine in_c (x := 321818) (s := zms91) (word_v (by decide +kernel)) ?_
  refine in_b (x := zms92) (hs_sL (j := 3) (n := 16) (f := zmf4) rfl (by decide) (by decide) _) ?_
  refine in_b (x := 7) rfl ?_
  refine in_c (x := 47) (s := zms92) (word_v (by decide +kernel)) ?_
  refine in_b (x := zms93) (hs_sL (j := 4) (n := 16) (f := zmf5) rfl (by decide) (by decide) _) ?_
  refine in_b (x := 7) rfl ?_
  refine in_c (x := 3971731) (s := zms93) (word_v (by decide +kernel)) ?_
  refine in_b (x := zms94) (hs_sL (j := 5) (n := 16) (f := zmf6) rfl (by decide) (by decide) _) ?_
  refine in_b (x := 7) rfl ?_
  refine in_c (x := 4723) (s := zms94) (word_v (by decide +kernel)) ?_
  refine in_b (x := zms95) (hs_sL (j := 6) (n := 16) (f := zmf7) rfl (by decide) (by decide) _) ?_
  refine in_b (x := 7) rfl ?_
  refine in_c (x := 419) (s := zms95) (word_v (by decide +kernel)) ?_
  refine in_b (x := zms96) (hs_sL (j := 7) (n := 16) (f := zmf8) rfl (by decide) (by decide) _) ?_
  refine in_b (x := 7) rfl ?_
  refine in_c (x := 249) (s := zms96) (word_v (by decide +kernel)) ?_
  refine in_b (x := zms97) (hs_sL (j := 8) (n := 16) (f := zmf9) rfl (by decide) (by decide) _) ?_
  refine in_b (x := 7) rfl ?_
  refine in_c (x := 399641) (s := zms97) (word_v (by decide +kernel)) ?_
  refine in_b (x := zms98) (hs_sL (j := 9) (n := 16) (f := zmf10) rfl (by decide) (by decide) _) ?_
  refine in_b (x := 7) rfl ?_
  refine in_c (x := 107681) (s := zms98) (word_v (by decide +kernel)) ?_
  refine in_b (x := zms99) (hs_sL (j := 10) (n := 16) (f := zmf11) rfl (by decide) (by decide) _) ?_
  refine in_b (x := 7) rfl ?_
  refine in_c (x := 247516) (s := zms99) (word_v (by decide +kernel)) ?_
  refine in_b (x := zms100) (hs_sL (j := 11) (n := 16) (f := zmf12) rfl (by decide) (by decide) _) ?_
  refine in_b (x := 7) rfl ?_
  refine in_c (x := 404923) (s := zms100) (word_v (by decide +kernel)) ?_
  refine in_b (x := zms101) (hs_sL (j := 12) (n := 16) (f := zmf13) rfl (by decide) (by decide) _) ?_
  refine in_b (x := 7) rfl ?_
  refine in_c (x := 6491892) (s := zms101) (word_v (by decide +kernel)) ?_
  refine in_b (x := zms102) (hs_sL (j := 13) (n := 16) (f := zmf14) rfl (by decide) (by decide) _) ?_
  refine in_b (x := 7) rfl ?_
  refine in_c (x := 8740067) (s := zms102) (word_v (by decide +kernel)) ?_
  refine in_b (x := zms103) (hs_sL (j := 14) (n := 16) (f := zmf15) rfl (by decide) (by decide) _) ?_
  refine in_b (x := 7) rfl ?_
  refine in_c (x := 582341) (s := zms103) (word_v (by decide +kernel)) ?_
  refine in_b (x := zms104) (hs_sL (j := 15) (n := 16) (f := zmf16) rfl (by decide) (by decide) _) ?_
  rfl
theorem mt_d : ∀ (l : List Nat) (n : Nat), l.length ≤ n → l.getD n 9 = 9
  | [], _, _ => rfl
  | _ :: _, 0, h => absurd h (Nat.not_succ_le_zero _)
  | _ :: l, n + 1, h => mt_d l n (Nat.le_of_succ_le_succ h)
theorem mty_d (k : Nat) (h : 44 ≤ k) : m_ty k = 9 := mt_d _ k h
theorem zmf2_o {j : Nat} (h : 16 ≤ j) : zmf2 j = 0 := (updL_ne (by omega)).trans rfl
theorem zmf3_o {j : Nat} (h : 16 ≤ j) : zmf3 j = 0 := (updL_ne (by omega)).trans (zmf2_o h)
theorem zmf4_o {j : Nat} (h : 16 ≤ j) : zmf4 j = 0 := (updL_ne (by omega)).trans (zmf3_o h)
theorem zmf5_o {j : Nat} (h : 16 ≤ j) : zmf5 j = 0 := (updL_ne (by omega)).trans (zmf4_o h)
theorem zmf6_o {j : Nat} (h : 16 ≤ j) : zmf6 j = 0 := (updL_ne (by omega)).trans (zmf5_o h)
theorem zmf7_o {j : Nat} (h : 16 ≤ j) : zmf7 j = 0 := (updL_ne (by omega)).trans (zmf6_o h)
theorem zmf8_o {j : Nat} (h : 16 ≤ j) : zmf8 j = 0 := (updL_ne (by omega)).trans (zmf7_o h)
theorem zmf9_o {j : Nat} (h : 16 ≤ j) : zmf9 j = 0 := (updL_ne (by omega)).trans (zmf8_o h)
theorem zmf10_o {j : Nat} (h : 16 ≤ j) : zmf10 j = 0 := (updL_ne (by omega)).trans (zmf9_o h)
theorem zmf11_o {j : Nat} (h : 16 ≤ j) : zmf11 j = 0 := (updL_ne (by omega)).trans (zmf10_o h)
theorem zmf12_o {j : Nat} (h : 16 ≤ j) : zmf12 j = 0 := (updL_ne (by omega)).trans (zmf11_o h)
theorem zmf13_o {j : Nat} (h : 16 ≤ j) : zmf13 j = 0 := (updL_ne (by omega)).trans (zmf12_o h)
theorem zmf14_o {j : Nat} (h : 16 ≤ j) : zmf14 j = 0 := (updL_ne (by omega)).trans (zmf13_o h)
theorem zmf15_o {j : Nat} (h : 16 ≤ j) : zmf15 j = 0 := (updL_ne (by omega)).trans (zmf14_o h)
theorem zmf16_o {j : Nat} (h : 16 ≤ j) : zmf16 j = 0 := (updL_ne (by omega)).trans (zmf15_o h)
theorem zmf17_o {j : Nat} (h : 16 ≤ j) : zmf17 j = 0 := (updL_ne (by omega)).trans (zmf16_o h)
theorem zm_keys : zmf17 = keysM := by
  funext j
  by_cases h : j < 16
  · exact (show ∀ j, j < 16 → zmf17 j = keysM j from (all_s (all_s (all_s (all_s (all_s (all_s (all_s (all_s (all_s (all_s (all_s (all_s (all_s (all_s (all_s (all_s (fun k hk => absurd hk (Nat.not_lt_zero k)) (by decide +kernel)) (by decide +kernel)) (by decide +kernel)) (by decide +kernel)) (by decide +kernel)) (by decide +kernel)) (by decide +kernel)) (by decide +kernel)) (by decide +kernel)) (by decide +kernel)) (by decide +kernel)) (by decide +kernel)) (by decide +kernel)) (by decide +kernel)) (by decide +kernel)) (by decide +kernel))) j h
  · rw [zmf17_o (by omega)]
    exact (getD_d _ j (by show 16 ≤ j; omega)).symm
def yF : Nat → Int32 := fun i => if i = 17 then -1 else 0
def yA : Nat → Nat → Int32 := fun k => if k = 12 then zmf1 else fun _ => 0
def yB : Nat → Nat → Int64 := fun k => if k = 7 then zmf17 else fun _ => 0
theorem zmd0 {k : Nat} (h : 44 ≤ k) : zms0.2 k = .inr (99, []) := if_neg (by omega)
theorem zmd1 {k : Nat} (h : 44 ≤ k) : zms1.2 k = .inr (99, []) := (vau_ne (by omega)).trans (zmd0 h)
theorem zmd2 {k : Nat} (h : 44 ≤ k) : zms2.2 k = .inr (99, []) := (vau_ne (by omega)).trans (zmd1 h)
theorem zmd3 {k : Nat} (h : 44 ≤ k) : zms3.2 k = .inr (99, []) := (vau_ne (by omega)).trans (zmd2 h)
theorem zmd4 {k : Nat} (h : 44 ≤ k) : zms4.2 k = .inr (99, []) := (vau_ne (by omega)).trans (zmd3 h)
theorem zmd5 {k : Nat} (h : 44 ≤ k) : zms5.2 k = .inr (99, []) := (vau_ne (by omega)).trans (zmd4 h)
theorem zmd6 {k : Nat} (h : 44 ≤ k) : zms6.2 k = .inr (99, []) := (vau_ne (by omega)).trans (zmd5 h)
theorem zmd7 {k : Nat} (h : 44 ≤ k) : zms7.2 k = .inr (99, []) := (vau_ne (by omega)).trans (zmd6 h)
theorem zmd8 {k : Nat} (h : 44 ≤ k) : zms8.2 k = .inr (99, []) := (vau_ne (by omega)).trans (zmd7 h)
theorem zmd9 {k : Nat} (h : 44 ≤ k) : zms9.2 k = .inr (99, []) := (vau_ne (by omega)).trans (zmd8 h)
theorem zmd10 {k : Nat} (h : 44 ≤ k) : zms10.2 k = .inr (99, []) := (vau_ne (by omega)).trans (zmd9 h)
theorem zmd11 {k : Nat} (h : 44 ≤ k) : zms11.2 k = .inr (99, []) := (vau_ne (by omega)).trans (zmd10 h)
theorem zmd12 {k : Nat} (h : 44 ≤ k) : zms12.2 k = .inr (99, []) := (vau_ne (by omega)).trans (zmd11 h)
theorem zmd13 {k : Nat} (h : 44 ≤ k) : zms13.2 k = .inr (99, []) := (vau_ne (by omega)).trans (zmd12 h)
theorem zmd14 {k : Nat} (h : 44 ≤ k) : zms14.2 k = .inr (99, []) := (vau_ne (by omega)).trans (zmd13 h)
theorem zmd15 {k : Nat} (h : 44 ≤ k) : zms15.2 k = .inr (99, []) := (vau_ne (by omega)).trans (zmd14 h)
theorem zmd16 {k : Nat} (h : 44 ≤ k) : zms16.2 k = .inr (99, []) := (vau_ne (by omega)).trans (zmd15 h)
theorem zmd17 {k : Nat} (h : 44 ≤ k) : zms17.2 k = .inr (99, []) := (vau_ne (by omega)).trans (zmd16 h)
theorem zmd18 {k : Nat} (h : 44 ≤ k) : zms18.2 k = .inr (99, []) := (vau_ne (by omega)).trans (zmd17 h)
theorem zmd19 {k : Nat} (h : 44 ≤ k) : zms19.2 k = .inr (99, []) := (vau_ne (by omega)).trans (zmd18 h)
theorem zmd20 {k : Nat} (h : 44 ≤ k) : zms20.2 k = .inr (99, []) := (vau_ne (by omega)).trans (zmd19 h)
theorem zmd21 {k : Nat} (h : 44 ≤ k) : zms21.2 k = .inr (99, []) := (vau_ne (by omega)).trans (zmd20 h)
theorem zmd22 {k : Nat} (h : 44 ≤ k) : zms22.2 k = .inr (99, []) := (vau_ne (by omega)).trans (zmd21 h)
theorem zmd23 {k : Nat} (h : 44 ≤ k) : zms23.2 k = .inr (99, []) := (vau_ne (by omega)).trans (zmd22 h)
theorem zmd24 {k : Nat} (h : 44 ≤ k) : zms24.2 k = .inr (99, []) := (vau_ne (by omega)).trans (zmd23 h)
theorem zmd25 {k : Nat} (h : 44 ≤ k) : zms25.2 k = .inr (99, []) := (vau_ne (by omega)).trans (zmd24 h)
theorem zmd26 {k : Nat} (h : 44 ≤ k) : zms26.2 k = .inr (99, []) := (vau_ne (by omega)).trans (zmd25 h)
theorem zmd27 {k : Nat} (h : 44 ≤ k) : zms27.2 k = .inr (99, []) := (vau_ne (by omega)).trans (zmd26 h)
theorem zmd28 {k : Nat} (h : 44 ≤ k) : zms28.2 k = .inr (99, []) := (vau_ne (by omega)).trans (zmd27 h)
theorem zmd29 {k : Nat} (h : 44 ≤ k) : zms29.2 k = .inr (99, []) := (vau_ne (by omega)).trans (zmd28 h)
theorem zmd30 {k : Nat} (h : 44 ≤ k) : zms30.2 k = .inr (99, []) := (vau_ne (by omega)).trans (zmd29 h)
theorem zmd31 {k : Nat} (h : 44 ≤ k) : zms31.2 k = .inr (99, []) := (vau_ne (by omega)).trans (zmd30 h)
theorem zmd32 {k : Nat} (h : 44 ≤ k) : zms32.2 k = .inr (99, []) := (vau_ne (by omega)).trans (zmd31 h)
theorem zmd33 {k : Nat} (h : 44 ≤ k) : zms33.2 k = .inr (99, []) := (vau_ne (by omega)).trans (zmd32 h)
theorem zmd34 {k : Nat} (h : 44 ≤ k) : zms34.2 k = .inr (99, []) := (vau_ne (by omega)).trans (zmd33 h)
theorem zmd35 {k : Nat} (h : 44 ≤ k) : zms35.2 k = .inr (99, []) := (vau_ne (by omega)).trans (zmd34 h)
theorem zmd36 {k : Nat} (h : 44 ≤ k) : zms36.2 k = .inr (99, []) := (vau_ne (by omega)).trans (zmd35 h)
theorem zmd37 {k : Nat} (h : 44 ≤ k) : zms37.2 k = .inr (99, []) := (vau_ne (by omega)).trans (zmd36 h)
theorem zmd38 {k : Nat} (h : 44 ≤ k) : zms38.2 k = .inr (99, []) := (vau_ne (by omega)).trans (zmd37 h)
theorem zmd39 {k : Nat} (h : 44 ≤ k) : zms39.2 k = .inr (99, []) := (vau_ne (by omega)).trans (zmd38 h)
theorem zmd40 {k : Nat} (h : 44 ≤ k) : zms40.2 k = .inr (99, []) := (vau_ne (by omega)).trans (zmd39 h)
theorem zmd41 {k : Nat} (h : 44 ≤ k) : zms41.2 k = .inr (99, []) := (vau_ne (by omega)).trans (zmd40 h)
theorem zmd42 {k : Nat} (h : 44 ≤ k) : zms42.2 k = .inr (99, []) := (vau_ne (by omega)).trans (zmd41 h)
theorem zmd43 {k : Nat} (h : 44 ≤ k) : zms43.2 k = .inr (99, []) := (vau_ne (by omega)).trans (zmd42 h)
theorem zmd44 {k : Nat} (h : 44 ≤ k) : zms44.2 k = .inr (99, []) := (vau_ne (by omega)).trans (zmd43 h)
theorem zmd45 {k : Nat} (h : 44 ≤ k) : zms45.2 k = .inr (99, []) := (vau_ne (by omega)).trans (zmd44 h)
theorem zmd46 {k : Nat} (h : 44 ≤ k) : zms46.2 k = .inr (99, []) := (vau_ne (by omega)).trans (zmd45 h)
theorem zmd47 {k : Nat} (h : 44 ≤ k) : zms47.2 k = .inr (99, []) := (vau_ne (by omega)).trans (zmd46 h)
theorem zmd48 {k : Nat} (h : 44 ≤ k) : zms48.2 k = .inr (99, []) := (vau_ne (by omega)).trans (zmd47 h)
theorem zmd49 {k : Nat} (h : 44 ≤ k) : zms49.2 k = .inr (99, []) := (vau_ne (by omega)).trans (zmd48 h)
theorem zmd50 {k : Nat} (h : 44 ≤ k) : zms50.2 k = .inr (99, []) := (vau_ne (by omega)).trans (zmd49 h)
theorem zmd51 {k : Nat} (h : 44 ≤ k) : zms51.2 k = .inr (99, []) := (vau_ne (by omega)).trans (zmd50 h)
theorem zmd52 {k : Nat} (h : 44 ≤ k) : zms52.2 k = .inr (99, []) := (vau_ne (by omega)).trans (zmd51 h)
theorem zmd53 {k : Nat} (h : 44 ≤ k) : zms53.2 k = .inr (99, []) := (vau_ne (by omega)).trans (zmd52 h)
theorem zmd54 {k : Nat} (h : 44 ≤ k) : zms54.2 k = .inr (99, []) := (vau_ne (by omega)).trans (zmd53 h)
theorem zmd55 {k : Nat} (h : 44 ≤ k) : zms55.2 k = .inr (99, []) := (vau_ne (by omega)).trans (zmd54 h)
theorem zmd56 {k : Nat} (h : 44 ≤ k) : zms56.2 k = .inr (99, []) := (vau_ne (by omega)).trans (zmd55 h)
theorem zmd57 {k : Nat} (h : 44 ≤ k) : zms57.2 k = .inr (99, []) := (vau_ne (by omega)).trans (zmd56 h)
theorem zmd58 {k : Nat} (h : 44 ≤ k) : zms58.2 k = .inr (99, []) := (vau_ne (by omega)).trans (zmd57 h)
theorem zmd59 {k : Nat} (h : 44 ≤ k) : zms59.2 k = .inr (99, []) := (vau_ne (by omega)).trans (zmd58 h)
theorem zmd60 {k : Nat} (h : 44 ≤ k) : zms60.2 k = .inr (99, []) := (vau_ne (by omega)).trans (zmd59 h)
theorem zmd61 {k : Nat} (h : 44 ≤ k) : zms61.2 k = .inr (99, []) := (vau_ne (by omega)).trans (zmd60 h)
theorem zmd62 {k : Nat} (h : 44 ≤ k) : zms62.2 k = .inr (99, []) := (vau_ne (by omega)).trans (zmd61 h)
theorem zmd63 {k : Nat} (h : 44 ≤ k) : zms63.2 k = .inr (99, []) := (vau_ne (by omega)).trans (zmd62 h)
theorem zmd64 {k : Nat} (h : 44 ≤ k) : zms64.2 k = .inr (99, []) := (vau_ne (by omega)).trans (zmd63 h)
theorem zmd65 {k : Nat} (h : 44 ≤ k) : zms65.2 k = .inr (99, []) := (vau_ne (by omega)).trans (zmd64 h)
theorem zmd66 {k : Nat} (h : 44 ≤ k) : zms66.2 k = .inr (99, []) := (vau_ne (by omega)).trans (zmd65 h)
theorem zmd67 {k : Nat} (h : 44 ≤ k) : zms67.2 k = .inr (99, []) := (vau_ne (by omega)).trans (zmd66 h)
theorem zmd68 {k : Nat} (h : 44 ≤ k) : zms68.2 k = .inr (99, []) := (vau_ne (by omega)).trans (zmd67 h)
theorem zmd69 {k : Nat} (h : 44 ≤ k) : zms69.2 k = .inr (99, []) := (vau_ne (by omega)).trans (zmd68 h)
theorem zmd70 {k : Nat} (h : 44 ≤ k) : zms70.2 k = .inr (99, []) := (vau_ne (by omega)).trans (zmd69 h)
theorem zmd71 {k : Nat} (h : 44 ≤ k) : zms71.2 k = .inr (99, []) := (vau_ne (by omega)).trans (zmd70 h)
theorem zmd72 {k : Nat} (h : 44 ≤ k) : zms72.2 k = .inr (99, []) := (vau_ne (by omega)).trans (zmd71 h)
theorem zmd73 {k : Nat} (h : 44 ≤ k) : zms73.2 k = .inr (99, []) := (vau_ne (by omega)).trans (zmd72 h)
theorem zmd74 {k : Nat} (h : 44 ≤ k) : zms74.2 k = .inr (99, []) := (vau_ne (by omega)).trans (zmd73 h)
theorem zmd75 {k : Nat} (h : 44 ≤ k) : zms75.2 k = .inr (99, []) := (vau_ne (by omega)).trans (zmd74 h)
theorem zmd76 {k : Nat} (h : 44 ≤ k) : zms76.2 k = .inr (99, []) := (vau_ne (by omega)).trans (zmd75 h)
theorem zmd77 {k : Nat} (h : 44 ≤ k) : zms77.2 k = .inr (99, []) := (vau_ne (by omega)).trans (zmd76 h)
theorem zmd78 {k : Nat} (h : 44 ≤ k) : zms78.2 k = .inr (99, []) := (vau_ne (by omega)).trans (zmd77 h)
theorem zmd79 {k : Nat} (h : 44 ≤ k) : zms79.2 k = .inr (99, []) := (vau_ne (by omega)).trans (zmd78 h)
theorem zmd80 {k : Nat} (h : 44 ≤ k) : zms80.2 k = .inr (99, []) := (vau_ne (by omega)).trans (zmd79 h)
theorem zmd81 {k : Nat} (h : 44 ≤ k) : zms81.2 k = .inr (99, []) := (vau_ne (by omega)).trans (zmd80 h)
theorem zmd82 {k : Nat} (h : 44 ≤ k) : zms82.2 k = .inr (99, []) := (vau_ne (by omega)).trans (zmd81 h)
theorem zmd83 {k : Nat} (h : 44 ≤ k) : zms83.2 k = .inr (99, []) := (vau_ne (by omega)).trans (zmd82 h)
theorem zmd84 {k : Nat} (h : 44 ≤ k) : zms84.2 k = .inr (99, []) := (vau_ne (by omega)).trans (zmd83 h)
theorem zmd85 {k : Nat} (h : 44 ≤ k) : zms85.2 k = .inr (99, []) := (vau_ne (by omega)).trans (zmd84 h)
theorem zmd86 {k : Nat} (h : 44 ≤ k) : zms86.2 k = .inr (99, []) := (vau_ne (by omega)).trans (zmd85 h)
theorem zmd87 {k : Nat} (h : 44 ≤ k) : zms87.2 k = .inr (99, []) := (vau_ne (by omega)).trans (zmd86 h)
theorem zmd88 {k : Nat} (h : 44 ≤ k) : zms88.2 k = .inr (99, []) := (vau_ne (by omega)).trans (zmd87 h)
theorem zmd89 {k : Nat} (h : 44 ≤ k) : zms89.2 k = .inr (99, []) := (vau_ne (by omega)).trans (zmd88 h)
theorem zmd90 {k : Nat} (h : 44 ≤ k) : zms90.2 k = .inr (99, []) := (vau_ne (by omega)).trans (zmd89 h)
theorem zmd91 {k : Nat} (h : 44 ≤ k) : zms91.2 k = .inr (99, []) := (vau_ne (by omega)).trans (zmd90 h)
theorem zmd92 {k : Nat} (h : 44 ≤ k) : zms92.2 k = .inr (99, []) := (vau_ne (by omega)).trans (zmd91 h)
theorem zmd93 {k : Nat} (h : 44 ≤ k) : zms93.2 k = .inr (99, []) := (vau_ne (by omega)).trans (zmd92 h)
theorem zmd94 {k : Nat} (h : 44 ≤ k) : zms94.2 k = .inr (99, []) := (vau_ne (by omega)).trans (zmd93 h)
theorem zmd95 {k : Nat} (h : 44 ≤ k) : zms95.2 k = .inr (99, []) := (vau_ne (by omega)).trans (zmd94 h)
theorem zmd96 {k : Nat} (h : 44 ≤ k) : zms96.2 k = .inr (99, []) := (vau_ne (by omega)).trans (zmd95 h)
theorem zmd97 {k : Nat} (h : 44 ≤ k) : zms97.2 k = .inr (99, []) := (vau_ne (by omega)).trans (zmd96 h)
theorem zmd98 {k : Nat} (h : 44 ≤ k) : zms98.2 k = .inr (99, []) := (vau_ne (by omega)).trans (zmd97 h)
theorem zmd99 {k : Nat} (h : 44 ≤ k) : zms99.2 k = .inr (99, []) := (vau_ne (by omega)).trans (zmd98 h)
theorem zmd100 {k : Nat} (h : 44 ≤ k) : zms100.2 k = .inr (99, []) := (vau_ne (by omega)).trans (zmd99 h)
theorem zmd101 {k : Nat} (h : 44 ≤ k) : zms101.2 k = .inr (99, []) := (vau_ne (by omega)).trans (zmd100 h)
theorem zmd102 {k : Nat} (h : 44 ≤ k) : zms102.2 k = .inr (99, []) := (vau_ne (by omega)).trans (zmd101 h)
theorem zmd103 {k : Nat} (h : 44 ≤ k) : zms103.2 k = .inr (99, []) := (vau_ne (by omega)).trans (zmd102 h)
theorem zmd104 {k : Nat} (h : 44 ≤ k) : zms104.2 k = .inr (99, []) := (vau_ne (by omega)).trans (zmd103 h)
set_option maxRecDepth 100000 in
theorem zma0 : zms104.2 0 = m_el 0 yF (yA 0) (yB 0) := rfl
set_option maxRecDepth 100000 in
theorem zma1 : zms104.2 1 = m_el 1 yF (yA 1) (yB 1) := rfl
set_option maxRecDepth 100000 in
theorem zma2 : zms104.2 2 = m_el 2 yF (yA 2) (yB 2) := rfl
set_option maxRecDepth 100000 in
theorem zma3 : zms104.2 3 = m_el 3 yF (yA 3) (yB 3) := rfl
set_option maxRecDepth 100000 in
theorem zma4 : zms104.2 4 = m_el 4 yF (yA 4) (yB 4) := rfl
set_option maxRecDepth 100000 in
theorem zma5 : zms104.2 5 = m_el 5 yF (yA 5) (yB 5) := rfl
set_option maxRecDepth 100000 in
theorem zma6 : zms104.2 6 = m_el 6 yF (yA 6) (yB 6) := rfl
set_option maxRecDepth 100000 in
theorem zma7 : zms104.2 7 = m_el 7 yF (yA 7) (yB 7) := rfl
set_option maxRecDepth 100000 in
theorem zma8 : zms104.2 8 = m_el 8 yF (yA 8) (yB 8) := rfl
set_option maxRecDepth 100000 in
theorem zma9 : zms104.2 9 = m_el 9 yF (yA 9) (yB 9) := rfl
set_option maxRecDepth 100000 in
theorem zma10 : zms104.2 10 = m_el 10 yF (yA 10) (yB 10) := rfl
set_option maxRecDepth 100000 in
theorem zma11 : zms104.2 11 = m_el 11 yF (yA 11) (yB 11) := rfl
set_option maxRecDepth 100000 in
theorem zma12 : zms104.2 12 = m_el 12 yF (yA 12) (yB 12) := rfl
set_option maxRecDepth 100000 in
theorem zma13 : zms104.2 13 = m_el 13 yF (yA 13) (yB 13) := rfl
set_option maxRecDepth 100000 in
theorem zma14 : zms104.2 14 = m_el 14 yF (yA 14) (yB 14) := rfl
set_option maxRecDepth 100000 in
theorem zma15 : zms104.2 15 = m_el 15 yF (yA 15) (yB 15) := rfl
set_option maxRecDepth 100000 in
theorem zma16 : zms104.2 16 = m_el 16 yF (yA 16) (yB 16) := rfl
set_option maxRecDepth 100000 in
theorem zma17 : zms104.2 17 = m_el 17 yF (yA 17) (yB 17) := rfl
set_option maxRecDepth 100000 in
theorem zma18 : zms104.2 18 = m_el 18 yF (yA 18) (yB 18) := rfl
set_option maxRecDepth 100000 in
theorem zma19 : zms104.2 19 = m_el 19 yF (yA 19) (yB 19) := rfl
set_option maxRecDepth 100000 in
theorem zma20 : zms104.2 20 = m_el 20 yF (yA 20) (yB 20) := rfl
set_option maxRecDepth 100000 in
theorem zma21 : zms104.2 21 = m_el 21 yF (yA 21) (yB 21) := rfl
set_option maxRecDepth 100000 in
theorem zma22 : zms104.2 22 = m_el 22 yF (yA 22) (yB 22) := rfl
set_option maxRecDepth 100000 in
theorem zma23 : zms104.2 23 = m_el 23 yF (yA 23) (yB 23) := rfl
set_option maxRecDepth 100000 in
theorem zma24 : zms104.2 24 = m_el 24 yF (yA 24) (yB 24) := rfl
set_option maxRecDepth 100000 in
theorem zma25 : zms104.2 25 = m_el 25 yF (yA 25) (yB 25) := rfl
set_option maxRecDepth 100000 in
theorem zma26 : zms104.2 26 = m_el 26 yF (yA 26) (yB 26) := rfl
set_option maxRecDepth 100000 in
theorem zma27 : zms104.2 27 = m_el 27 yF (yA 27) (yB 27) := rfl
set_option maxRecDepth 100000 in
theorem zma28 : zms104.2 28 = m_el 28 yF (yA 28) (yB 28) := rfl
set_option maxRecDepth 100000 in
theorem zma29 : zms104.2 29 = m_el 29 yF (yA 29) (yB 29) := rfl
set_option maxRecDepth 100000 in
theorem zma30 : zms104.2 30 = m_el 30 yF (yA 30) (yB 30) := rfl
set_option maxRecDepth 100000 in
theorem zma31 : zms104.2 31 = m_el 31 yF (yA 31) (yB 31) := rfl
set_option maxRecDepth 100000 in
theorem zma32 : zms104.2 32 = m_el 32 yF (yA 32) (yB 32) := rfl
set_option maxRecDepth 100000 in
theorem zma33 : zms104.2 33 = m_el 33 yF (yA 33) (yB 33) := rfl
set_option maxRecDepth 100000 in
theorem zma34 : zms104.2 34 = m_el 34 yF (yA 34) (yB 34) := rfl
set_option maxRecDepth 100000 in
theorem zma35 : zms104.2 35 = m_el 35 yF (yA 35) (yB 35) := rfl
set_option maxRecDepth 100000 in
theorem zma36 : zms104.2 36 = m_el 36 yF (yA 36) (yB 36) := rfl
set_option maxRecDepth 100000 in
theorem zma37 : zms104.2 37 = m_el 37 yF (yA 37) (yB 37) := rfl
set_option maxRecDepth 100000 in
theorem zma38 : zms104.2 38 = m_el 38 yF (yA 38) (yB 38) := rfl
set_option maxRecDepth 100000 in
theorem zma39 : zms104.2 39 = m_el 39 yF (yA 39) (yB 39) := rfl
set_option maxRecDepth 100000 in
theorem zma40 : zms104.2 40 = m_el 40 yF (yA 40) (yB 40) := rfl
set_option maxRecDepth 100000 in
theorem zma41 : zms104.2 41 = m_el 41 yF (yA 41) (yB 41) := rfl
set_option maxRecDepth 100000 in
theorem zma42 : zms104.2 42 = m_el 42 yF (yA 42) (yB 42) := rfl
set_option maxRecDepth 100000 in
theorem zma43 : zms104.2 43 = m_el 43 yF (yA 43) (yB 43) := rfl
theorem zml0 : ∀ k, k < 0 → zms104.2 k = m_el k yF (yA k) (yB k) := fun k hk => absurd hk (Nat.not_lt_zero k)
theorem zml1 : ∀ k, k < 1 → zms104.2 k = m_el k yF (yA k) (yB k) := all_s (P := fun k => zms104.2 k = m_el k yF (yA k) (yB k)) zml0 zma0
theorem zml2 : ∀ k, k < 2 → zms104.2 k = m_el k yF (yA k) (yB k) := all_s (P := fun k => zms104.2 k = m_el k yF (yA k) (yB k)) zml1 zma1
theorem zml3 : ∀ k, k < 3 → zms104.2 k = m_el k yF (yA k) (yB k) := all_s (P := fun k => zms104.2 k = m_el k yF (yA k) (yB k)) zml2 zma2
theorem zml4 : ∀ k, k < 4 → zms104.2 k = m_el k yF (yA k) (yB k) := all_s (P := fun k => zms104.2 k = m_el k yF (yA k) (yB k)) zml3 zma3
theorem zml5 : ∀ k, k < 5 → zms104.2 k = m_el k yF (yA k) (yB k) := all_s (P := fun k => zms104.2 k = m_el k yF (yA k) (yB k)) zml4 zma4
theorem zml6 : ∀ k, k < 6 → zms104.2 k = m_el k yF (yA k) (yB k) := all_s (P := fun k => zms104.2 k = m_el k yF (yA k) (yB k)) zml5 zma5
theorem zml7 : ∀ k, k < 7 → zms104.2 k = m_el k yF (yA k) (yB k) := all_s (P := fun k => zms104.2 k = m_el k yF (yA k) (yB k)) zml6 zma6
theorem zml8 : ∀ k, k < 8 → zms104.2 k = m_el k yF (yA k) (yB k) := all_s (P := fun k => zms104.2 k = m_el k yF (yA k) (yB k)) zml7 zma7
theorem zml9 : ∀ k, k < 9 → zms104.2 k = m_el k yF (yA k) (yB k) := all_s (P := fun k => zms104.2 k = m_el k yF (yA k) (yB k)) zml8 zma8
theorem zml10 : ∀ k, k < 10 → zms104.2 k = m_el k yF (yA k) (yB k) := all_s (P := fun k => zms104.2 k = m_el k yF (yA k) (yB k)) zml9 zma9
theorem zml11 : ∀ k, k < 11 → zms104.2 k = m_el k yF (yA k) (yB k) := all_s (P := fun k => zms104.2 k = m_el k yF (yA k) (yB k)) zml10 zma10
theorem zml12 : ∀ k, k < 12 → zms104.2 k = m_el k yF (yA k) (yB k) := all_s (P := fun k => zms104.2 k = m_el k yF (yA k) (yB k)) zml11 zma11
theorem zml13 : ∀ k, k < 13 → zms104.2 k = m_el k yF (yA k) (yB k) := all_s (P := fun k => zms104.2 k = m_el k yF (yA k) (yB k)) zml12 zma12
theorem zml14 : ∀ k, k < 14 → zms104.2 k = m_el k yF (yA k) (yB k) := all_s (P := fun k => zms104.2 k = m_el k yF (yA k) (yB k)) zml13 zma13
theorem zml15 : ∀ k, k < 15 → zms104.2 k = m_el k yF (yA k) (yB k) := all_s (P := fun k => zms104.2 k = m_el k yF (yA k) (yB k)) zml14 zma14
theorem zml16 : ∀ k, k < 16 → zms104.2 k = m_el k yF (yA k) (yB k) := all_s (P := fun k => zms104.2 k = m_el k yF (yA k) (yB k)) zml15 zma15
theorem zml17 : ∀ k, k < 17 → zms104.2 k = m_el k yF (yA k) (yB k) := all_s (P := fun k => zms104.2 k = m_el k yF (yA k) (yB k)) zml16 zma16
theorem zml18 : ∀ k, k < 18 → zms104.2 k = m_el k yF (yA k) (yB k) := all_s (P := fun k => zms104.2 k = m_el k yF (yA k) (yB k)) zml17 zma17
theorem zml19 : ∀ k, k < 19 → zms104.2 k = m_el k yF (yA k) (yB k) := all_s (P := fun k => zms104.2 k = m_el k yF (yA k) (yB k)) zml18 zma18
theorem zml20 : ∀ k, k < 20 → zms104.2 k = m_el k yF (yA k) (yB k) := all_s (P := fun k => zms104.2 k = m_el k yF (yA k) (yB k)) zml19 zma19
theorem zml21 : ∀ k, k < 21 → zms104.2 k = m_el k yF (yA k) (yB k) := all_s (P := fun k => zms104.2 k = m_el k yF (yA k) (yB k)) zml20 zma20
theorem zml22 : ∀ k, k < 22 → zms104.2 k = m_el k yF (yA k) (yB k) := all_s (P := fun k => zms104.2 k = m_el k yF (yA k) (yB k)) zml21 zma21
theorem zml23 : ∀ k, k < 23 → zms104.2 k = m_el k yF (yA k) (yB k) := all_s (P := fun k => zms104.2 k = m_el k yF (yA k) (yB k)) zml22 zma22
theorem zml24 : ∀ k, k < 24 → zms104.2 k = m_el k yF (yA k) (yB k) := all_s (P := fun k => zms104.2 k = m_el k yF (yA k) (yB k)) zml23 zma23
theorem zml25 : ∀ k, k < 25 → zms104.2 k = m_el k yF (yA k) (yB k) := all_s (P := fun k => zms104.2 k = m_el k yF (yA k) (yB k)) zml24 zma24
theorem zml26 : ∀ k, k < 26 → zms104.2 k = m_el k yF (yA k) (yB k) := all_s (P := fun k => zms104.2 k = m_el k yF (yA k) (yB k)) zml25 zma25
theorem zml27 : ∀ k, k < 27 → zms104.2 k = m_el k yF (yA k) (yB k) := all_s (P := fun k => zms104.2 k = m_el k yF (yA k) (yB k)) zml26 zma26
theorem zml28 : ∀ k, k < 28 → zms104.2 k = m_el k yF (yA k) (yB k) := all_s (P := fun k => zms104.2 k = m_el k yF (yA k) (yB k)) zml27 zma27
theorem zml29 : ∀ k, k < 29 → zms104.2 k = m_el k yF (yA k) (yB k) := all_s (P := fun k => zms104.2 k = m_el k yF (yA k) (yB k)) zml28 zma28
theorem zml30 : ∀ k, k < 30 → zms104.2 k = m_el k yF (yA k) (yB k) := all_s (P := fun k => zms104.2 k = m_el k yF (yA k) (yB k)) zml29 zma29
theorem zml31 : ∀ k, k < 31 → zms104.2 k = m_el k yF (yA k) (yB k) := all_s (P := fun k => zms104.2 k = m_el k yF (yA k) (yB k)) zml30 zma30
theorem zml32 : ∀ k, k < 32 → zms104.2 k = m_el k yF (yA k) (yB k) := all_s (P := fun k => zms104.2 k = m_el k yF (yA k) (yB k)) zml31 zma31
theorem zml33 : ∀ k, k < 33 → zms104.2 k = m_el k yF (yA k) (yB k) := all_s (P := fun k => zms104.2 k = m_el k yF (yA k) (yB k)) zml32 zma32
theorem zml34 : ∀ k, k < 34 → zms104.2 k = m_el k yF (yA k) (yB k) := all_s (P := fun k => zms104.2 k = m_el k yF (yA k) (yB k)) zml33 zma33
theorem zml35 : ∀ k, k < 35 → zms104.2 k = m_el k yF (yA k) (yB k) := all_s (P := fun k => zms104.2 k = m_el k yF (yA k) (yB k)) zml34 zma34
theorem zml36 : ∀ k, k < 36 → zms104.2 k = m_el k yF (yA k) (yB k) := all_s (P := fun k => zms104.2 k = m_el k yF (yA k) (yB k)) zml35 zma35
theorem zml37 : ∀ k, k < 37 → zms104.2 k = m_el k yF (yA k) (yB k) := all_s (P := fun k => zms104.2 k = m_el k yF (yA k) (yB k)) zml36 zma36
theorem zml38 : ∀ k, k < 38 → zms104.2 k = m_el k yF (yA k) (yB k) := all_s (P := fun k => zms104.2 k = m_el k yF (yA k) (yB k)) zml37 zma37
theorem zml39 : ∀ k, k < 39 → zms104.2 k = m_el k yF (yA k) (yB k) := all_s (P := fun k => zms104.2 k = m_el k yF (yA k) (yB k)) zml38 zma38
theorem zml40 : ∀ k, k < 40 → zms104.2 k = m_el k yF (yA k) (yB k) := all_s (P := fun k => zms104.2 k = m_el k yF (yA k) (yB k)) zml39 zma39
theorem zml41 : ∀ k, k < 41 → zms104.2 k = m_el k yF (yA k) (yB k) := all_s (P := fun k => zms104.2 k = m_el k yF (yA k) (yB k)) zml40 zma40
theorem zml42 : ∀ k, k < 42 → zms104.2 k = m_el k yF (yA k) (yB k) := all_s (P := fun k => zms104.2 k = m_el k yF (yA k) (yB k)) zml41 zma41
theorem zml43 : ∀ k, k < 43 → zms104.2 k = m_el k yF (yA k) (yB k) := all_s (P := fun k => zms104.2 k = m_el k yF (yA k) (yB k)) zml42 zma42
theorem zml44 : ∀ k, k < 44 → zms104.2 k = m_el k yF (yA k) (yB k) := all_s (P := fun k => zms104.2 k = m_el k yF (yA k) (yB k)) zml43 zma43
theorem zm_mk : zms104 = mkM yF yA yB := by
  refine Prod.ext rfl (funext fun k => ?_)
  by_cases h : k < 44
  · exact zml44 k h
  · rw [zmd104 (by omega)]
    have e : m_ty k = 9 := mty_d k (by omega)
    show _ = m_el k yF (yA k) (yB k)
    unfold m_el
    rw [if_neg (by omega), if_pos e]
