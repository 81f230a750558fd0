/** Boundary cases of 'Terms', part 5, but for the images, and of promises 31 to 39: sheets and slots. */
final class SheetBounds {
    private static final String SHEETS = "Terms 5";
    private final Bounds b;

    SheetBounds(Bounds bounds) {
        b = bounds;
    }

    void all() {
        sheets();
        slots();
        findings();
        sheet();
        mark();
        pour();
        reads();
        copy();
        refusedCopies();
        lay();
        ask();
        item();
        rest();
    }

    private void sheets() {
        b.about(SHEETS, "SHEETS 0 .. 3 are rows of shorts (sort 0) or floats (1; "
            + "whole numbers), with 0 to 24 places, or MISSING (at first).");
        b.run("reads 0 = NOTHING; reads 1 = NOTHING; reads 2 = NOTHING; reads 3 = NOTHING; reads 4 = BAD; reads -1 = BAD");
        b.run("sheet 0 0 24 = 24; sheet 1 1 24 = 24; sheet 2 0 0 = 0; sheet 3 1 0 = 0; mark 0 23 32768 = 1; "
            + "mark 1 23 32768 = 1; mark 0 24 0 = INDEX; mark 1 24 0 = INDEX; mark 2 0 0 = INDEX; mark 3 0 0 = INDEX; "
            + "lay 0 2 0; item 0 23 = -32768; lay 0 2 1; item 0 23 = 32768; sheet 0 -1 0 = 0; reads 0 = NOTHING; "
            + "sheet 1 0 25 = BAD; sheet 1 0 -1 = SIZE; reads 2 = NONE; reads 3 = NONE");
        b.about(SHEETS, "A place of floats may be NO NUMBER.");
        b.run("sheet 0 1 1; mark 0 0 NONE = 1; lay 0 2 0; item 0 0 = KIND; reads 0 = NONE; pour 0 = 0; mark 0 0 0 = 1; "
            + "item 0 0 = KIND; lay 0 2 0; item 0 0 = 0; sheet 1 0 1; mark 1 0 NONE = KIND; lay 0 2 1; item 0 0 = 0");
    }

    private void slots() {
        b.about(SHEETS, "SLOTS 0 .. 4 each hold nothing (at first),");
        b.run("lay 0 0 0 = 0; lay 1 0 0 = 0; lay 2 0 0 = 0; lay 3 0 0 = 0; lay 4 0 0 = 0; lay 5 0 0 = BAD; lay -1 0 0 = BAD; "
            + "ask 0 0 = NOTHING; item 4 0 = NOTHING; rest 2 1 = NOTHING; lay 0 3 1; lay 4 3 2; rest 0 10 = 1; rest 4 10 = 2; "
            + "rest 1 10 = NOTHING; rest 3 10 = NOTHING");
        b.about(SHEETS, "an ATTIC (as it is then, for good),");
        b.run("keep; attic 1 0 12; lay 0 1 0; set 0 2 1; turns 0 4; set 0 1 5; ask 0 1 = 7; ask 0 4 = KIND; back; "
            + "told 0 0 = BAD; ask 0 1 = 7; attic 5 0 3; ask 0 1 = 7; lay 0 1 0 = 1; ask 0 5 = 3; ask 0 1 = KIND");
        b.about(SHEETS, "a SHEET (a row of its own, as it was then),");
        b.run("sheet 0 0 2; mark 0 1 7; lay 0 2 0; lay 1 2 0; mark 0 1 8; mark 0 0 9; item 0 1 = 7; item 0 0 = 0; "
            + "sheet 0 1 24; item 0 2 = INDEX; sheet 0 -1 0; item 0 1 = 7; item 1 1 = 7; sheet 0 0 1; mark 0 0 5; lay 0 2 0; "
            + "item 0 0 = 5; item 0 1 = INDEX; item 1 1 = 7");
        b.run("sheet 0 0 2; lay 0 2 0; sheet 1 0 2; mark 1 0 3; copy 1 0 0 0 2; item 0 0 = 0; keep; back; item 0 0 = 0");
        b.about(SHEETS, "or a number.");
        b.run("lay 0 3 MIN = 0; rest 0 MAX = -1; lay 0 3 MAX = 3; rest 0 MIN = MAX; lay 0 3 0; rest 0 7 = 0; lay 0 3 NONE; "
            + "rest 0 MIN = NONE; hours 1; rest 0 MIN = NONE");
    }

    private void findings() {
        b.about(SHEETS, "FINDINGS: NOTHING: a SHEET is MISSING, a SLOT holds nothing;");
        b.refused("like 3 0 = NOTHING; mark 3 0 0 = NOTHING; pour 3 = NOTHING; reads 3 = NOTHING; copy 3 0 0 0 0 = NOTHING; "
            + "copy 0 0 3 0 0 = NOTHING; lay 0 2 3 = NOTHING; ask 0 0 = NOTHING; item 0 0 = NOTHING; rest 0 1 = NOTHING");
        b.about(SHEETS, "INDEX: there is no such place;");
        b.refused("mark 0 -1 0 = INDEX; mark 0 3 0 = INDEX; mark 2 0 0 = INDEX; item 2 -1 = INDEX; item 2 4 = INDEX; "
            + "item 4 0 = INDEX; copy 0 0 2 0 1 = INDEX");
        b.about(SHEETS, "SIZE: a number of places is below 0;");
        b.refused("sheet 0 0 -1 = SIZE; sheet 0 1 MIN = SIZE; sheet 3 1 -1 = SIZE");
        b.about(SHEETS, "KIND: it is none (of a KIND, a number, or another thing).");
        b.refused("as 0 1 = KIND; mark 0 0 NONE = KIND; copy 0 0 1 0 1 = KIND; ask 1 1 = KIND; ask 2 0 = KIND; ask 3 0 = KIND; "
            + "item 1 0 = KIND; item 3 0 = KIND; item 2 3 = KIND; rest 1 1 = KIND; rest 2 1 = KIND");
    }

    private void sheet() {
        b.about("Promise 31", "A SHEET becomes a row of n places of a sort, all 0 (sort -1: MISSING, n any): n (0).");
        b.run("sheet 0 0 0 = 0; sheet 0 0 1 = 1; sheet 0 1 24 = 24; sheet 3 1 0 = 0; sheet 3 0 24 = 24; mark 0 0 1; "
            + "mark 0 23 NONE; sheet 0 1 24 = 24; lay 0 2 0; item 0 0 = 0; item 0 23 = 0; item 0 24 = INDEX; mark 3 5 9; "
            + "sheet 3 0 6 = 6; lay 0 2 3; item 0 5 = 0; item 0 6 = INDEX");
        b.run("sheet 0 0 5; mark 0 4 3; sheet 0 0 2; sheet 0 0 5; lay 0 2 0; item 0 4 = 0");
        b.run("sheet 0 0 3; sheet 0 -1 7 = 0; reads 0 = NOTHING; sheet 0 -1 25 = 0; sheet 0 -1 -1 = 0; sheet 3 -1 MIN = 0; "
            + "sheet 3 -1 MAX = 0; sheet 0 0 3 = 3; mark 0 2 1 = 1; sheet 0 -1 0; sheet 0 1 3; lay 0 2 0; item 0 2 = 0");
        b.about("Promise 31", "BAD: sheet, sort, n above 24;");
        b.refused("sheet -1 0 1 = BAD; sheet 4 0 1 = BAD; sheet 0 -2 1 = BAD; sheet 0 2 1 = BAD; sheet 0 0 25 = BAD; "
            + "sheet 1 1 25 = BAD; sheet 0 1 MAX = BAD; sheet 4 -1 0 = BAD; sheet -1 -1 0 = BAD; sheet 4 0 -1 = BAD; "
            + "sheet 0 2 -1 = BAD; sheet 0 -2 -1 = BAD; sheet 3 0 25 = BAD");
        b.about("Promise 31", "SIZE.");
        b.refused("sheet 0 0 -1 = SIZE; sheet 1 1 -1 = SIZE; sheet 3 0 MIN = SIZE; sheet 0 1 BAD = SIZE");
    }

    private void mark() {
        b.about("Promise 32", "A place of a SHEET becomes v (of shorts its lowest 16 bits; of floats v, -99999 .. 99999; "
            + "NONE: NO NUMBER): 1.");
        int[][] shorts = {{0, 0}, {32767, 32767}, {32768, -32768}, {65535, -1}, {65536, 0}, {-32768, -32768}, {-32769, 32767}, {-65536, 0},
            {Integer.MAX_VALUE, -1}, {Integer.MIN_VALUE, 0}, {AtticStars.BAD, (short) AtticStars.BAD}, {99999, 99999 - 131072}, {100000, 100000 - 131072},
            {AtticStars.NONE - 1, (short) (AtticStars.NONE - 1)}, {AtticStars.NONE + 1, (short) (AtticStars.NONE + 1)}};
        for (int[] s : shorts) b.run("sheet 0 0 24; mark 0 23 " + s[0] + " = 1; lay 0 2 0; "
            + "item 0 23 = " + s[1] + "; item 0 22 = 0");
        for (int v : new int[] {-99999, 99999, 0, -1, 32768, 65536}) b.run("sheet 3 1 1; mark 3 0 " + v + " = 1; lay 0 2 3; "
            + "item 0 0 = " + v);
        b.run("sheet 0 1 2; mark 0 0 7; mark 0 0 NONE = 1; lay 0 2 0; item 0 0 = KIND; item 0 1 = 0; mark 0 0 3 = 1; "
            + "lay 0 2 0; item 0 0 = 3");
        b.about("Promise 32", "BAD: sheet;");
        b.refused("mark -1 0 0 = BAD; mark 4 0 0 = BAD; mark 4 -1 NONE = BAD");
        b.about("Promise 32", "NOTHING;");
        b.refused("mark 3 0 0 = NOTHING; mark 3 -1 NONE = NOTHING; mark 3 24 100000 = NOTHING");
        b.about("Promise 32", "INDEX;");
        b.refused("mark 0 -1 0 = INDEX; mark 0 3 0 = INDEX; mark 0 3 NONE = INDEX; mark 1 4 100000 = INDEX; "
            + "mark 1 -1 NONE = INDEX; mark 2 0 0 = INDEX; mark 0 MIN 0 = INDEX; mark 0 MAX 0 = INDEX");
        b.run("sheet 0 0 24; mark 0 24 0 = INDEX; mark 0 23 0 = 1; mark 0 0 0 = 1");
        b.about("Promise 32", "KIND: NONE in a row of shorts;");
        b.refused("mark 0 0 NONE = KIND; mark 0 2 NONE = KIND");
        b.about("Promise 32", "BAD: v of floats.");
        b.refused("mark 1 0 -100000 = BAD; mark 1 0 100000 = BAD; mark 1 3 100000 = BAD; mark 1 0 MIN = BAD; "
            + "mark 1 0 MAX = BAD; mark 1 0 BAD = BAD; mark 1 0 NO = BAD");
    }

    private void pour() {
        b.about("Promise 33", "PRICES of STARS, by numbers, become the places of a SHEET from 0 on (each held within 0 and 99;");
        b.run("sheet 0 1 8; mark 0 0 -1; mark 0 1 0; mark 0 2 1; mark 0 3 98; mark 0 4 99; mark 0 5 100; mark 0 6 99999; "
            + "mark 0 7 -99999; pour 0 = 8; starOf 0 1 = 0; starOf 1 1 = 0; starOf 2 1 = 1; starOf 3 1 = 98; starOf 4 1 = 99; "
            + "starOf 5 1 = 99; starOf 6 1 = 99; starOf 7 1 = 0");
        b.run("sheet 3 0 8; mark 3 0 32768; mark 3 7 32767; pour 3 = 8; starOf 0 1 = 0; starOf 7 1 = 99; starOf 0 0 = 0; "
            + "starOf 7 0 = 21");
        b.about("Promise 33", "NO NUMBER, and beyond the SHEET: it stays): how many are otherwise then.");
        b.run("sheet 0 1 24; mark 0 0 NONE; mark 0 7 NONE; mark 0 8 50; pour 0 = 6; starOf 0 1 = 5; starOf 1 1 = 0; "
            + "starOf 6 1 = 0; starOf 7 1 = 5; pour 0 = 0");
        b.run("sheet 0 0 7; pour 0 = 7; starOf 6 1 = 0; starOf 7 1 = 5; sheet 1 0 0; pour 1 = 0; starOf 7 1 = 5; sheet 1 0 1; "
            + "mark 1 0 9; pour 1 = 1; starOf 0 1 = 9; starOf 1 1 = 0; mark 1 0 300; pour 1 = 1; mark 1 0 99; pour 1 = 0");
        b.run("sheet 0 0 8; mark 0 0 5; mark 0 7 5; pour 0 = 6");
        b.about("Promise 33", "BAD;");
        b.refused("pour -1 = BAD; pour 4 = BAD");
        b.about("Promise 33", "NOTHING.");
        b.refused("pour 3 = NOTHING");
    }

    private void reads() {
        b.about("Promise 34", "The first place (of numbers alone) at which a SHEET is not what that ATTIC FACES (of places that are no ATTIC all numbers are not).");
        b.run("attic 0 0 1; attic 0 23 1; sheet 0 1 3; mark 0 0 23; reads 0 = 0; mark 0 0 0; reads 0 = 1; mark 0 1 24; "
            + "reads 0 = 1; mark 0 1 -1; reads 0 = 1; mark 0 1 23; reads 0 = 2; mark 0 2 NONE; reads 0 = NONE; mark 0 0 NONE; "
            + "mark 0 1 22; reads 0 = 1; attic 0 5 1; mark 0 1 23; reads 0 = NONE; mark 0 2 0; reads 0 = 2");
        b.run("sheet 0 0 24; reads 0 = 0; 8x attic 0 0 1; reads 0 = 8; sheet 0 0 8; reads 0 = NONE; set 7 1 1; reads 0 = 7; "
            + "mark 0 7 1; reads 0 = NONE");
        b.run("keep; attic 0 0 1; sheet 0 0 1; reads 0 = NONE; back; reads 0 = 0");
        b.about("Promise 34", "BAD;");
        b.refused("reads -1 = BAD; reads 4 = BAD");
        b.about("Promise 34", "NOTHING;");
        b.refused("reads 3 = NOTHING");
        b.about("Promise 34", "NONE: there is none.");
        b.refused("reads 2 = NONE");
        b.run("sheet 0 0 0; reads 0 = NONE; sheet 0 1 1; mark 0 0 NONE; reads 0 = NONE; attic 0 7 1; sheet 0 0 1; mark 0 0 7; "
            + "reads 0 = NONE");
    }

    private static final String ROWS = "sheet 0 0 5; mark 0 0 1; mark 0 1 2; mark 0 2 3; mark 0 3 4; mark 0 4 5; sheet 1 0 3; "
        + "sheet 2 1 3; mark 2 0 NONE; mark 2 1 77777; ";

    /** What a sheet has then, place by place. */
    private void copied(String copies, int sheet, String... places) {
        StringBuilder rows = new StringBuilder(ROWS + copies + "; lay 0 2 " + sheet + ";");
        for (int k = 0; k < places.length; k++) rows.append("item 0 ").append(k).append(" = ").append(places[k]).append(";");
        b.run(rows + "item 0 " + places.length + " = INDEX");
    }

    private void copy() {
        b.about("Promise 35", "So many places of a SHEET come to another one (or the same), as they were: many.");
        copied("copy 0 0 0 1 4 = 4", 0, "1", "1", "2", "3", "4");
        copied("copy 0 1 0 0 4 = 4", 0, "2", "3", "4", "5", "5");
        copied("copy 0 0 0 0 5 = 5", 0, "1", "2", "3", "4", "5");
        copied("copy 0 0 0 4 1 = 1", 0, "1", "2", "3", "4", "1");
        copied("copy 0 2 1 0 3 = 3", 1, "3", "4", "5");
        copied("copy 0 4 1 2 1 = 1", 1, "0", "0", "5");
        copied("copy 0 2 1 0 3 = 3; copy 1 0 1 0 0 = 0; mark 0 2 9", 1, "3", "4", "5");
        copied("copy 2 0 2 1 2 = 2", 2, "KIND", "KIND", "77777");
        copied("sheet 3 1 2; copy 2 0 3 0 2 = 2", 3, "KIND", "77777");
        b.run("sheet 0 0 24; sheet 3 0 24; mark 0 23 7; mark 0 0 6; copy 0 0 3 0 24 = 24; lay 0 2 3; item 0 0 = 6; "
            + "item 0 23 = 7");
        b.about("Promise 35", "(where none comes, it may begin right behind these).");
        copied("copy 0 5 1 3 0 = 0", 1, "0", "0", "0");
        copied("copy 0 0 1 0 0 = 0; copy 0 5 0 5 0 = 0", 0, "1", "2", "3", "4", "5");
        b.run("sheet 0 0 0; sheet 1 0 24; copy 0 0 1 24 0 = 0; copy 1 24 0 0 0 = 0; copy 0 0 0 0 0 = 0; "
            + "copy 0 1 1 0 0 = INDEX; copy 1 25 0 0 0 = INDEX; copy 0 0 1 25 0 = INDEX");
        b.about("Promise 35", "(From a SHEET, its place, to a SHEET, its place.)");
        copied("copy 0 3 1 1 2 = 2", 1, "0", "4", "5");
        copied("copy 1 0 0 3 2 = 2", 0, "1", "2", "3", "0", "0");
    }

    private void refusedCopies() {
        b.about("Promise 35", "BAD;");
        b.refusedIn(ROWS, "copy -1 0 0 0 0 = BAD; copy 4 0 0 0 0 = BAD; copy 0 0 -1 0 0 = BAD; copy 0 0 4 0 0 = BAD; "
            + "copy 3 0 4 0 0 = BAD; copy 4 -1 3 -1 -1 = BAD");
        b.about("Promise 35", "NOTHING;");
        b.refusedIn(ROWS, "copy 3 0 0 0 0 = NOTHING; copy 0 0 3 0 0 = NOTHING; copy 3 0 3 0 0 = NOTHING; "
            + "copy 3 -1 0 0 0 = NOTHING; copy 0 0 3 0 -1 = NOTHING");
        b.about("Promise 35", "KIND: they are not of one sort;");
        b.refusedIn(ROWS, "copy 0 0 2 0 1 = KIND; copy 2 0 0 0 1 = KIND; copy 0 0 2 0 0 = KIND; copy 2 -1 0 0 0 = KIND; "
            + "copy 0 0 2 0 -1 = KIND; copy 0 0 2 9 9 = KIND");
        b.about("Promise 35", "INDEX: many or a place is below 0, or it would go beyond their last places");
        b.refusedIn(ROWS, "copy 0 0 0 0 -1 = INDEX; copy 0 -1 0 0 1 = INDEX; copy 0 0 0 -1 1 = INDEX; copy 0 -1 0 0 0 = INDEX; "
            + "copy 0 0 0 -1 0 = INDEX; copy 0 0 1 0 4 = INDEX; copy 0 3 1 0 3 = INDEX; copy 0 0 1 1 3 = INDEX; "
            + "copy 0 0 0 0 6 = INDEX; copy 0 5 0 0 1 = INDEX; copy 0 0 0 5 1 = INDEX; copy 0 6 1 0 0 = INDEX; "
            + "copy 0 0 1 4 0 = INDEX; copy 0 1 0 0 5 = INDEX; copy 0 0 0 1 5 = INDEX; copy 0 2 0 -1 1 = INDEX; "
            + "copy 0 5 0 5 1 = INDEX");
        b.refusedIn(ROWS, "copy 0 MAX 0 0 1 = INDEX; copy 0 0 0 MAX 1 = INDEX; copy 0 1 0 1 MAX = INDEX; "
            + "copy 0 MAX 0 MAX MAX = INDEX; copy 0 MIN 0 0 MIN = INDEX; copy 0 0 0 0 MIN = INDEX; copy 0 MIN 0 MIN 0 = INDEX; "
            + "copy 0 MAX 0 0 MIN = INDEX; copy 0 MIN 0 0 MAX = INDEX; copy 0 1 0 1 MIN = INDEX");
    }

    private void lay() {
        b.about("Promise 36", "A SLOT holds: thing 0 nothing (k any), 1 ATTIC k, 2 SHEET k, 3 the number k: what it held (0 .. 3).");
        b.run("7x attic 0 0 5; attic 1 0 6; sheet 3 0 1; mark 3 0 8; lay 0 1 0 = 0; ask 0 0 = 5; lay 0 1 7 = 1; ask 0 1 = 4; "
            + "lay 0 2 3 = 1; item 0 0 = 8; lay 0 3 MIN = 2; rest 0 MAX = -1; lay 0 3 -1 = 3; lay 0 0 MIN = 3; "
            + "rest 0 1 = NOTHING; lay 0 0 MAX = 0; lay 4 2 3 = 0; lay 4 1 0 = 2; lay 4 0 -1 = 1; lay 4 3 0 = 0");
        b.about("Promise 36", "BAD: slot, thing, k;");
        b.refused("lay -1 0 0 = BAD; lay 5 0 0 = BAD; lay 0 -1 0 = BAD; lay 0 4 0 = BAD; lay 1 1 -1 = BAD; lay 1 1 7 = BAD; "
            + "lay 1 2 -1 = BAD; lay 1 2 4 = BAD; lay 5 2 3 = BAD; lay 3 4 3 = BAD; lay 5 3 3 = BAD");
        b.refusedIn(Towns.FULL, "lay 0 1 8 = BAD");
        b.refusedIn("", "lay 0 1 0 = BAD; lay 0 2 4 = BAD");
        b.about("Promise 36", "NOTHING: that SHEET is MISSING.");
        b.refused("lay 0 2 3 = NOTHING; lay 1 2 3 = NOTHING; lay 3 2 3 = NOTHING");
        b.refusedIn("", "lay 0 2 0 = NOTHING; lay 4 2 3 = NOTHING");
        b.run("sheet 0 0 0; lay 0 2 0 = 0; item 0 0 = INDEX; sheet 0 -1 0; lay 0 2 0 = NOTHING; item 0 0 = INDEX");
    }

    private void ask() {
        b.about("Promise 37", "What the ATTIC in a SLOT is WIDE (by THE HOUR as it is, by its own KIND), taken for one of a KIND (0 .. 5).");
        int[] wides = {12, 7, 14, 7, 24, 12};
        int[][] above = {{0}, {0, 1}, {0, 2}, {0, 1, 3}, {0, 2, 4}, {0, 5}};
        for (int kind = 0; kind < 6; kind++) {
            for (int as : above[kind]) {
                int odd = kind == 5 ? 0 : wides[kind];
                b.run("attic " + kind + " 3 12; lay 4 1 0; ask 4 " + as + " = " + wides[kind] + "; hours 1; "
                    + "ask 4 " + as + " = " + odd + "; hours 1; ask 4 " + as + " = "
                    + wides[kind]);
            }
        }
        b.run("attic 5 0 1; hours 1; lay 0 1 0; ask 0 5 = 0; keep; hours 1; ask 0 0 = 1; back; ask 0 0 = 0");
        b.about("Promise 37", "BAD;");
        b.refused("ask -1 0 = BAD; ask 5 0 = BAD; ask 1 -1 = BAD; ask 1 6 = BAD; ask 0 6 = BAD; ask 0 -1 = BAD; ask 3 6 = BAD");
        b.about("Promise 37", "NOTHING;");
        b.refused("ask 0 0 = NOTHING; ask 0 5 = NOTHING");
        b.about("Promise 37", "KIND: it is no ATTIC, or not of that KIND, nor of one under it.");
        b.refused("ask 2 0 = KIND; ask 3 0 = KIND; ask 4 0 = KIND; ask 1 1 = KIND; ask 1 3 = KIND; ask 1 5 = KIND; "
            + "ask 1 4 = 24; ask 1 2 = 24; ask 1 0 = 24");
        b.run("attic 0 0 1; lay 0 1 0; ask 0 1 = KIND; ask 0 2 = KIND; ask 0 5 = KIND; turns 0 1; lay 0 1 0; ask 0 3 = KIND; "
            + "ask 0 2 = KIND; turns 0 2; lay 0 1 0; ask 0 4 = KIND");
    }

    private void item() {
        b.about("Promise 38", "A place of the SHEET in a SLOT.");
        b.run("sheet 0 1 24; mark 0 0 -99999; mark 0 23 99999; lay 4 2 0; item 4 0 = -99999; item 4 23 = 99999; item 4 1 = 0; "
            + "sheet 1 0 1; mark 1 0 32768; lay 0 2 1; item 0 0 = -32768");
        b.about("Promise 38", "BAD: slot;");
        b.refused("item -1 0 = BAD; item 5 0 = BAD; item 5 -1 = BAD");
        b.about("Promise 38", "NOTHING;");
        b.refused("item 0 0 = NOTHING; item 0 -1 = NOTHING; item 0 24 = NOTHING");
        b.about("Promise 38", "KIND: it is no SHEET;");
        b.refused("item 1 0 = KIND; item 3 0 = KIND; item 1 -1 = KIND; item 3 24 = KIND");
        b.about("Promise 38", "INDEX;");
        b.refused("item 2 -1 = INDEX; item 2 4 = INDEX; item 2 MIN = INDEX; item 2 MAX = INDEX; item 4 0 = INDEX; "
            + "item 4 -1 = INDEX");
        b.run("sheet 0 0 24; lay 0 2 0; item 0 24 = INDEX; item 0 23 = 0; item 0 -1 = INDEX");
        b.about("Promise 38", "KIND: NO NUMBER.");
        b.refused("item 2 3 = KIND; item 2 2 = 0; item 2 0 = 99999");
    }

    private void rest() {
        b.about("Promise 39", "The rest of the number in a SLOT by n.");
        String[] rests = {"7 3 = 1", "-7 3 = -1", "7 -3 = 1", "-7 -3 = -1", "6 3 = 0", "6 7 = 6", "0 5 = 0", "MIN -1 = 0", "MIN 1 = 0", "MIN MIN = 0", "MIN MAX = -1",
            "MAX MIN = MAX", "MAX -1 = 0", "MIN 10 = -8", "-1 MIN = -1"};
        for (String rest : rests) {
            String[] parts = rest.split(" ", 2);
            b.run("lay 4 3 " + parts[0] + "; rest 4 " + parts[1]);
        }
        b.about("Promise 39", "BAD: slot;");
        b.refused("rest -1 1 = BAD; rest 5 1 = BAD; rest 5 0 = BAD; rest -1 0 = BAD");
        b.about("Promise 39", "NOTHING;");
        b.refused("rest 0 1 = NOTHING; rest 0 0 = NOTHING");
        b.about("Promise 39", "KIND: it is no number;");
        b.refused("rest 1 1 = KIND; rest 2 1 = KIND; rest 4 1 = KIND; rest 1 0 = KIND; rest 2 0 = KIND");
        b.about("Promise 39", "NO: n is 0.");
        b.refused("rest 3 0 = NO; rest 3 1 = 0; rest 3 -1 = 0");
    }
}
