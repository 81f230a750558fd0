/** Boundary cases of the images in 'Terms', part 5, and of promises 40 to 44: rows that wait, images, counts. */
final class RowBounds {
    /** Without a wage and a cloud: taken 20, 40, 50, 50; owed 0, 0, 10, 30. */
    private static final String KEPT = Towns.CLEAR + "attic 0 0 12; set 0 3 50; keep; ";
    private final Bounds b;

    RowBounds(Bounds bounds) {
        b = bounds;
    }

    void all() {
        images();
        hoursTold();
        tell();
        check();
        checkToTheLastHour();
        keepAndBack();
        count();
    }

    private void images() {
        b.about("Terms 5", "AN IMAGE keeps all but SHEETS, SLOTS, numbers that wait, THE TAPE;");
        String changes = "hours 50; turns 0 4; set 1 1 9; set 2 2 9; set 3 3 99; set 4 4 99; star 0 0 7; star 1 1 7; "
            + "chimney 3 1; chimney 14 0; rule 0 1; rule 1 2; rule 2 3; seed 4; attic 0 0 1; trim 0; text 'want 9'; "
            + "text 'fee 9'; text 'fine 9'; ";
        String others = "sheet 0 1 2; mark 0 0 5; sheet 3 0 1; lay 0 3 9; lay 1 0 0; check 0; tell 8; trim 0; write 'fee 8'; ";
        Played changed = new Played();
        changed.rows(Towns.BUSY + "keep; " + changes + others + "back; ");
        Played only = new Played();
        only.rows(Towns.BUSY + "keep; " + others);
        b.holds("back is not as the image in all but sheets, slots, numbers and tape", Towns.look(changed).equals(Towns.look(only)));
        b.run("sheet 0 0 1; mark 0 0 3; lay 0 3 4; tell 5; write 'fee 6'; keep; sheet 0 0 2; mark 0 1 7; lay 0 3 8; tell 9; "
            + "trim 0; write 'fee 11'; back; count 5 = 2; count 6 = 6; rest 0 100 = 8; lay 0 2 0; item 0 1 = 7; text = 0; "
            + "fee = 11");
        b.about("Terms 5", "all can become as it is (again and again).");
        b.run(KEPT + "hours 1 = 20; back = 1; count 1 = 0; told 0 3 = 50; hours 1 = 20; back = 1; told 0 3 = 50; back = 1; "
            + "hours 3 = 50; told 0 4 = 10; back = 1; told 0 4 = 0; count 7 = 1; count 2 = 0");
        b.run("attic 0 0 1; keep; set 0 3 5; back; set 0 3 6; told 0 3 = 6; back; told 0 3 = 0; star 0 0 5; back; "
            + "starOf 0 0 = 0; text 'fee 1'; back; count 4 = 0; why 1 = NONE");
        b.run("keep; hours 5; keep; hours 5; back; count 1 = 5; hours 1; back; count 1 = 5");
    }

    private void hoursTold() {
        b.about("Terms 5", "THE HOURS TOLD: of n HOURS, one behind the other, by THE IMAGE: TAKEN (all of it); "
            + "what all OWE, together, behind each.");
        b.run(KEPT + "tell 20; tell 0; tell 40; tell 0; tell 50; tell 10; tell 50; tell 30; check 4 = 0");
        b.run(KEPT + "hours 2; keep; tell 50; tell 10; check 1 = 0; tell 10; tell 10; check 1 = 1");
        b.run(KEPT + "hours 2; attic 0 0 1; rule 0 100; text 'want 7'; seed 9; chimney 0 1; star 0 1 0; tell 20; tell 0; "
            + "tell 40; tell 0; check 2 = 0; count 1 = 2");
        b.run(Towns.CLEAR + "8x attic 0 0 12; set 0 4 9999; set 7 3 30; keep; tell 20; tell 10119; tell 30; tell 10249; "
            + "check 2 = 0");
        b.run("rule 0 100; attic 0 0 12; set 0 4 7; keep; tell 0; tell 7; tell 0; tell 7; check 2 = 0");
    }

    private void tell() {
        b.about("Promise 40", "One more number waits: how many.");
        b.run("count 5 = 0; tell 0 = 1; tell MIN = 2; tell MAX = 3; tell NONE = 4; tell BAD = 5; count 5 = 5; 54x tell 0; "
            + "count 5 = 59; tell -1 = 60; count 5 = 60; check 1 = NO; count 5 = 0; tell 9 = 1");
        b.about("Promise 40", "FULL: 60 wait.");
        b.refusedIn(Towns.FULL, "tell 0 = FULL; tell MIN = FULL");
        b.run("60x tell 7; tell 7 = FULL; count 5 = 60; tell 7 = FULL");
    }

    private void check() {
        b.about("Promise 41", "The numbers that wait (none do then, whatever is answered)");
        b.run(KEPT + "tell 20; tell 0; check 1 = 0; count 5 = 0; tell 1; check 1 = 1; count 5 = 0; tell 1; check 0 = BAD; "
            + "count 5 = 0; tell 1; check 31 = BAD; count 5 = 0");
        b.run("tell 1; check 1 = NO; count 5 = 0; tell 1; check 0 = BAD; count 5 = 0");
        b.refusedTo(Towns.FULL, Towns.FULL_WITHOUT_NUMBERS, "check 30 = 0; check 29 = 59; check 1 = 3; check 0 = BAD; "
            + "check 31 = BAD");
        b.refusedTo(Towns.BUSY, Towns.BUSY_UNTOLD, "check 2 = 0; check 1 = 3; check 3 = 5; check 30 = 5");
        b.about("Promise 41", "two by two: 0; "
            + "else 1 and how many stand right ahead of the first that is not (or is missing, or one too many).");
        String[] told = {"20", "0", "40", "0", "50", "10", "50", "30"};
        for (int wrong = 0; wrong <= 8; wrong++) {
            StringBuilder other = new StringBuilder();
            StringBuilder missing = new StringBuilder();
            for (int i = 0; i < 8; i++) {
                other.append("tell ").append(i == wrong ? "-1" : told[i]).append(";");
                if (i < wrong) missing.append("tell ").append(told[i]).append(";");
            }
            int due = wrong < 8 ? wrong + 1 : 0;
            b.run(KEPT + other + "check 4 = " + due);
            b.run(KEPT + missing + "check 4 = " + due);
        }
        b.run(KEPT + "check 1 = 1; check 30 = 1; tell 20; tell 0; tell 40; check 1 = 3; tell 20; tell 0; tell 40; tell 0; "
            + "check 1 = 3; tell 20; check 1 = 2; tell 21; tell 0; tell 1; check 1 = 1; tell 20; tell 1; tell 0; check 1 = 2");
        b.about("Promise 41", "BAD;");
        b.refusedTo(Towns.BUSY, Towns.BUSY_UNTOLD, "check 0 = BAD; check -1 = BAD; check 31 = BAD; check MIN = BAD; "
            + "check MAX = BAD");
        b.refusedTo("tell 5; ", "", "check 0 = BAD; check 31 = BAD");
        b.about("Promise 41", "NO: there is no IMAGE.");
        b.refusedTo("tell 5; ", "", "check 1 = NO; check 30 = NO");
        b.run("check 1 = NO; keep; check 1 = 1");
    }

    private void checkToTheLastHour() {
        b.about("Promise 41", "are THE HOURS TOLD of n (1 .. 30; fewer, if THE HOUR would be above 9999),");
        String thirty = Towns.told(KEPT, 30);
        b.run(KEPT + thirty + "count 5 = 60; check 30 = 0; " + thirty + "check 29 = 59; tell 20; tell 0; check 1 = 0");
        String late = Towns.LAST_BUT_ONE + "attic 0 0 12; rule 0 0; set 0 3 30; keep; ";
        b.run(late + "tell 20; tell 0; check 1 = 0; tell 20; tell 0; check 2 = 0; tell 20; tell 0; check 30 = 0; tell 20; "
            + "tell 0; tell 30; tell 10; check 2 = 3; tell 20; check 30 = 2");
        b.run(late + "hours 1; tell 20; tell 0; check 30 = 0; keep; check 1 = 0; check 30 = 0; tell 0; check 1 = 1; tell 30; "
            + "tell 10; check 30 = 1; check 31 = BAD");
        b.run("rule 0 100; 99x hours 100; hours 69; keep; 60x tell 0; check 30 = 0; hours 1; keep; 60x tell 0; check 30 = 59; "
            + "58x tell 0; check 30 = 0; 58x tell 0; check 29 = 0");
    }

    private void keepAndBack() {
        b.about("Promise 42", "AN IMAGE is kept: how many ATTICS.");
        b.run("keep = 0; back = 0; attic 0 0 1; keep = 1; 7x attic 0 0 1; keep = 8; back = 8; keep = 8");
        Played before = new Played();
        before.rows(Towns.FULL_WITHOUT_NUMBERS + "back; ");
        Played kept = new Played();
        kept.rows(Towns.FULL_WITHOUT_NUMBERS + "back; keep; ");
        b.holds("keep changes more than the image", Towns.look(before).equals(Towns.look(kept)));
        b.about("Promise 43", "All is as THE IMAGE: how many ATTICS.");
        b.run("keep; 8x attic 0 0 1; back = 0; count 0 = 0; told 0 0 = BAD; attic 1 2 3 = 0; told 0 0 = 1; told 0 3 = 0; "
            + "7x attic 0 0 1; keep = 8; set 7 3 5; back = 8; told 7 3 = 0");
        b.run("14x text 'fee 1'; keep; text 'fee 2' = FULL; back; count 4 = 14");
        b.run("keep; 14x text 'fee 1'; back = 0; count 4 = 0; text 'want 1' = 0; why 1 = NONE");
        b.run("keep;" + Towns.LAST_HOUR + "back = 0; count 1 = 0; count 3 = 0; hours 1; count 1 = 1");
        b.about("Promise 43", "NO: there is none.");
        b.refusedIn("", "back = NO");
        b.refusedIn("deal 3; hours 5; sheet 0 0 2; lay 0 3 5; tell 4; write 'fee 3'; ", "back = NO");
    }

    private void count() {
        b.about("Promise 44", "0 how many ATTICS, 1 THE HOUR, 2 TAKEN, 3 PRAYED, 4 TEXTS, 5 numbers that wait, 6 bytes of THE TAPE, 7 z.");
        b.run("count 0 = 0; count 1 = 0; count 2 = 0; count 3 = 0; count 4 = 0; count 5 = 0; count 6 = 0; count 7 = 1");
        b.run(Towns.FULL + "count 0 = 8; count 4 = 14; count 5 = 60; count 6 = 96; count 1 = 0; tell 1 = FULL; count 5 = 60; "
            + "attic 0 0 1 = FULL; count 0 = 8");
        b.run(Towns.CLEAR + "attic 0 0 12; set 0 3 30; hours 1; rule 0 100; hours 2; tell 4; write 'fee'; seed MIN; "
            + "text 'fee 1' = -100; write 'x'; count 0 = 1; count 1 = 3; count 2 = 20; count 3 = 2; count 4 = 0; count 5 = 1; "
            + "count 6 = 1; count 7 = MIN");
        b.run(Towns.LAST_HOUR + "count 1 = 9999; count 3 = 9999; count 7 = " + Lot.z(1, 2 * 9999));
        b.refused("count 0 = 7; count 4 = 4; count 5 = 4; count 6 = 9; count 1 = 13");
        b.about("Promise 44", "BAD.");
        b.refused("count -1 = BAD; count 8 = BAD");
    }
}
