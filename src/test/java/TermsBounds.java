/** Boundary cases of 'Terms': its head and its parts 1 to 3. Stars stand at 0, 3 .. 21 at first and cost 5. */
final class TermsBounds {
    private static final String HEAD = "Terms", STARS = "Terms 1", HOUR = "Terms 2", THOUGHT = "Terms 3";
    private final Bounds b;

    TermsBounds(Bounds bounds) {
        b = bounds;
    }

    void all() {
        numbers();
        refusals();
        sets();
        stars();
        town();
        attics();
        kinds();
        wide();
        looks();
        hidden();
        plain();
        rents();
        clouds();
        paying();
        smoke();
        wages();
        draws();
        covers();
        thoughts();
        debtsAndRises();
        choices();
        likes();
    }

    private void numbers() {
        b.about(HEAD, "All numbers are whole; / cuts towards 0.");
        b.run("attic 1 0 5; told 0 5 = 3; star 0 1 4; attic 3 0 1; told 1 7 = 1");
        b.run("text 'fee 7/2'; fee = 3; text 'fee (0-7)/2'; fee = -3; text 'fee 7/(0-2)'; fee = -3; text 'fee (0-7)/(0-2)'; "
            + "fee = 3; text 'fee 1/2'; fee = 0; text 'fee (0-1)/2'; fee = 0");
    }

    private void refusals() {
        b.about(HEAD, "A call that is refused answers one of BAD, NO, FULL, or a FINDING, of several the one that stands first"
            + " with it, and changes nothing (but the tape and the numbers that wait, where told).");
        b.refusedIn(Towns.FULL, "attic 6 0 1 = BAD; attic 0 24 1 = BAD; attic 0 0 0 = BAD; attic 0 0 1 = FULL");
        b.refused("sheet 4 0 -1 = BAD; sheet 0 2 -1 = BAD; sheet 0 0 -1 = SIZE; copy 3 0 4 0 0 = BAD; "
            + "copy 3 -1 0 -1 -1 = NOTHING; copy 0 -1 1 -1 -1 = KIND; copy 0 -1 0 0 0 = INDEX; mark 3 -1 NONE = NOTHING; "
            + "mark 0 -1 NONE = INDEX; mark 0 0 NONE = KIND");
        b.refusedTo(Towns.FULL, Towns.FULL_WITHOUT_TAPE, "text = FULL");
        b.refusedTo(Towns.BUSY, Towns.BUSY_UNTOLD, "check 0 = BAD; check 31 = BAD");
        b.refusedTo("tell 1", "", "check 0 = BAD; check 1 = NO");
        for (String v : new String[] {"MIN", "-1", "MAX"}) {
            for (String call : Calls.ALL_BAD) b.refused(call.replaceAll("\\bv\\b", v) + " = BAD");
        }

        b.about(HEAD, "NONE: there is none.");
        b.refused("why 3 = BAD; why 2 = 2; reads 2 = NONE; debt 0 9999 = NONE");
        b.run("why 0 = NONE; why 1 = NONE; why 2 = NONE; cover 1 = NONE; sheet 0 0 0; like 0 0 = NONE; reads 0 = NONE");
    }

    private void sets() {
        b.about(HEAD, "Sets of STARS and ATTICS are told by bits;");
        b.run("attic 0 0 1; told 0 6 = 1; starOf 0 3 = 1; town 5 = 254; cover 1 = 1");
        b.run("7x attic 0 1 1; attic 0 21 1 = 7; told 7 6 = 128; starOf 7 3 = 128; town 5 = 127; cover 128 = 128");
        b.run("8x attic 4 0 12; told 7 6 = 255; starOf 7 3 = 255; town 5 = 0; cover 255 = 1");

        b.about(HEAD, "BEARINGS are 0 .. 23, round (behind 23 comes 0).");
        b.run("star 1 0 23; attic 0 23 1; told 0 6 = 2; set 0 2 2; told 0 6 = 3; set 0 2 12; told 0 6 = 15");
        b.run("attic 0 22 2; told 0 6 = 0; set 0 2 3; told 0 6 = 1; set 0 1 21; told 0 6 = 128; set 0 2 4; told 0 6 = 129");
        b.run("star 0 0 23; starOf 0 2 = 23; hours 1; starOf 0 2 = 0");
        b.refused("chimney -1 1 = BAD; chimney 24 1 = BAD; smokes -1 = BAD; smokes 24 = BAD; set 0 1 -1 = BAD; "
            + "set 0 1 24 = BAD; star 0 0 -1 = BAD; star 0 0 24 = BAD; attic 0 -1 1 = BAD; attic 0 24 1 = BAD");
        b.run("chimney 0 1 = 0; chimney 23 1 = 0; smokes 0 = 1; smokes 23 = 1; town 3 = 2");
    }

    private void stars() {
        b.about(STARS, "STARS 0 .. 7, each with a HOME (a BEARING; STAR k: 3 * k at first) and a PRICE (0 .. 99; 5 at first);");
        for (int k = 0; k < 8; k++) {
            b.run("starOf " + k + " 0 = " + 3 * k + "; starOf " + k + " 1 = 5; star " + k + " 0 23 = " + 3 * k + "; star " + k
                + " 0 0 = 23; starOf " + k + " 0 = 0; star " + k + " 1 99 = 5; star " + k + " 1 0 = 99; "
                + "starOf " + k + " 1 = 0");
        }
        b.refused("star -1 0 0 = BAD; star 8 0 0 = BAD; starOf -1 0 = BAD; starOf 8 0 = BAD; star 7 0 -1 = BAD; "
            + "star 7 0 24 = BAD; star 7 1 -1 = BAD; star 7 1 100 = BAD");

        b.about(STARS, "at THE HOUR a STAR stands at the BEARING that is the rest by 24 of HOME and THE HOUR, together.");
        b.run("star 0 0 23; starOf 0 2 = 23; starOf 1 2 = 3; hours 1; starOf 0 2 = 0; starOf 1 2 = 4; starOf 0 0 = 23; "
            + "hours 22; starOf 0 2 = 22; hours 1; starOf 0 2 = 23; starOf 1 2 = 3; hours 1; starOf 0 2 = 0; starOf 1 2 = 4");
        b.run(Towns.LAST_HOUR + "starOf 0 2 = 15; starOf 3 2 = 0; starOf 7 2 = 12; star 0 0 8; starOf 0 2 = 23; star 0 0 23; "
            + "starOf 0 2 = 14");
    }

    private void town() {
        b.about(STARS, "CHIMNEYS stand at BEARINGS (none at first).");
        StringBuilder none = new StringBuilder("town 3 = 0;");
        StringBuilder each = new StringBuilder();
        for (int bearing = 0; bearing < 24; bearing++) {
            none.append("smokes ").append(bearing).append(" = 0;");
            each.append("chimney ").append(bearing).append(" 1 = 0; smokes ").append(bearing).append(" = 1; town 3 = ")
                .append(bearing + 1).append(";");
        }
        b.run(none.toString());
        b.run(each + "stands 1 0 = NONE");

        b.about(STARS, "CLOUDS 0 .. 100 (10 at first), SMOKE 0 .. 100 (0 at first), WAGE 0 .. 999 (50 at first).");
        b.run("rule 0 100 = 10; rule 0 0 = 100; rule 0 10 = 0; rule 1 100 = 0; rule 1 0 = 100; rule 1 1 = 0; rule 2 999 = 50; "
            + "rule 2 0 = 999; rule 2 50 = 0");
        b.refused("rule 0 -1 = BAD; rule 0 101 = BAD; rule 1 -1 = BAD; rule 1 101 = BAD; rule 2 -1 = BAD; rule 2 1000 = BAD");

        b.about(STARS, "TAKEN, PRAYED are 0 at first; THE HOUR is 0 at first, 9999 at most.");
        b.run("town 0 = 0; town 2 = 0; count 1 = 0; count 2 = 0; count 3 = 0");
        b.run(Towns.LAST_BUT_ONE + "count 1 = 9998; hours 1 = 0; count 1 = 9999; count 3 = 9999; hours 1 = 0; count 1 = 9999; "
            + "count 3 = 9999");
    }

    private void attics() {
        b.about(STARS, "ATTICS, 8 at most, numbered from 0:");
        b.run("attic 0 0 1 = 0; attic 1 1 2 = 1; 5x attic 0 0 1; attic 2 2 3 = 7; count 0 = 8; attic 0 0 1 = FULL; "
            + "count 0 = 8; told 7 2 = 3");
        b.refusedIn(Towns.FULL, "attic 0 0 1 = FULL; told 8 0 = BAD; deal 8 = 0");

        b.about(STARS, "FACES (a BEARING), WIDTH 1 .. 12, COIN (0 .. 9999; 0 at first), OWES (0 .. 9999; 0 at first),");
        b.run("attic 0 23 12; told 0 1 = 23; told 0 2 = 12; told 0 3 = 0; told 0 4 = 0; attic 0 0 1; told 1 1 = 0; "
            + "told 1 2 = 1; set 0 1 0 = 23; set 0 1 23 = 0; set 0 2 1 = 12; set 0 2 12 = 1; set 0 3 9999 = 0; "
            + "set 0 3 0 = 9999; set 0 4 9999 = 0; set 0 4 0 = 9999; told 1 3 = 0; told 1 4 = 0");
        b.refused("set 0 1 -1 = BAD; set 0 1 24 = BAD; set 0 2 0 = BAD; set 0 2 13 = BAD; set 0 3 -1 = BAD; "
            + "set 0 3 10000 = BAD; set 0 4 -1 = BAD; set 0 4 10000 = BAD");
    }

    private void kinds() {
        b.about(STARS, "and of KINDS: 0 ATTIC; 1 GAP, 2 GABLE, 5 CURTAIN, under ATTIC; 3 SHARED, under GAP; "
            + "4 DORMER, under GABLE"
            + " (all are ATTICS).");
        int[][] above = {{0}, {0, 1}, {0, 2}, {0, 1, 3}, {0, 2, 4}, {0, 5}};
        for (int kind = 0; kind < 6; kind++) {
            StringBuilder rows = new StringBuilder("attic " + kind + " 0 2; told 0 0 = " + kind + "; set 0 3 7; lay 0 1 0;");
            int wide = new int[] {2, 2, 4, 2, 8, 2}[kind];
            for (int of = 0; of < 6; of++) {
                boolean is = false;
                for (int one : above[kind]) is |= one == of;
                rows.append("as 0 ").append(of).append(is ? " = 7;" : " = KIND;");
                rows.append("ask 0 ").append(of).append(is ? " = " + wide + ";" : " = KIND;");
            }
            b.run(rows.toString());
        }
        b.refused("attic -1 0 1 = BAD; attic 6 0 1 = BAD; turns 0 -1 = BAD; turns 0 6 = BAD; as 0 -1 = BAD; as 0 6 = BAD");
    }

    private void wides(int kind, int... widthsAndWides) {
        StringBuilder rows = new StringBuilder("attic " + kind + " 0 1;");
        for (int i = 0; i < widthsAndWides.length; i += 2) {
            rows.append("set 0 2 ").append(widthsAndWides[i]).append("; told 0 5 = ").append(widthsAndWides[i + 1]).append(";");
        }
        b.run(rows.toString());
    }

    private void wide() {
        b.about(STARS, "WIDE: ATTIC: WIDTH.");
        wides(0, 1, 1, 2, 2, 11, 11, 12, 12);
        b.about(STARS, "GAP: half (cut) of as ATTIC, and 1.");
        wides(1, 1, 1, 2, 2, 3, 2, 11, 6, 12, 7);
        b.about(STARS, "SHARED: as GAP.");
        wides(3, 1, 1, 2, 2, 3, 2, 11, 6, 12, 7);
        b.about(STARS, "GABLE: as ATTIC, and 2.");
        wides(2, 1, 3, 2, 4, 11, 13, 12, 14);
        b.about(STARS, "DORMER: twice as GABLE (24 at most).");
        wides(4, 1, 6, 2, 8, 9, 22, 10, 24, 11, 24, 12, 24);
        b.about(STARS, "CURTAIN: as ATTIC, if THE HOUR is even, else 0.");
        wides(5, 1, 1, 12, 12);
        b.run("attic 5 0 12; told 0 5 = 12; told 0 6 = 15; hours 1; told 0 5 = 0; told 0 6 = 0; told 0 7 = 0; hours 1; "
            + "told 0 5 = 12");
        b.run("attic 5 0 12;" + Towns.LAST_BUT_ONE + "told 0 5 = 12; hours 1; told 0 5 = 0; behind 1 0 = 0; rises 0 3 = 1");
    }

    private void looks() {
        b.about(STARS, "It LOOKS at as many BEARINGS as it is WIDE, from FACES on.");
        for (int faces = 0; faces < 24; faces++) {
            int ahead = (faces + 23) % 24;
            int last = (faces + 2) % 24;
            int beyond = (faces + 3) % 24;
            b.run("attic 0 " + faces + " 3; "
                + "star 0 0 " + ahead + "; star 1 0 " + faces + "; star 2 0 " + last + "; star 3 0 " + beyond
                + "; star 4 0 " + beyond + "; star 5 0 " + beyond + "; star 6 0 " + beyond + "; star 7 0 " + beyond + "; told 0 6 = 6");
        }
        b.run("attic 0 6 1; told 0 6 = 4; set 0 1 5; told 0 6 = 0; set 0 1 7; told 0 6 = 0");
        b.run("attic 5 0 12; hours 1; told 0 5 = 0; told 0 6 = 0; attic 4 23 12; told 1 6 = 255; set 1 2 9; told 1 5 = 22; "
            + "star 0 0 20; starOf 0 2 = 21; told 1 6 = 126; star 0 0 19; told 1 6 = 127");
    }

    private void hidden() {
        String all = "star 0 0 0; star 1 0 1; star 2 0 2; star 3 0 3; star 4 0 22; star 5 0 23; star 6 0 22; star 7 0 23;";
        String even = "chimney 0 1; chimney 2 1; chimney 22 1;";
        String odd = "chimney 1 1; chimney 3 1; chimney 23 1;";
        b.about(STARS, "HIDDEN from it are STARS behind CHIMNEYS: ATTIC: behind all.");
        b.run(all + "attic 0 22 6; told 0 6 = 255;" + even + "told 0 6 = 170;" + odd + "told 0 6 = 0");
        b.run(all + "attic 0 22 6; chimney 4 1; chimney 21 1; told 0 6 = 255; chimney 23 1; told 0 6 = 95");
        b.about(STARS, "GABLE: behind those at odd BEARINGS.");
        b.run(all + "attic 2 22 6; told 0 6 = 255;" + even + "told 0 6 = 255;" + odd + "told 0 6 = 85");
        for (int bearing = 0; bearing < 24; bearing++) {
            b.run("attic 2 " + bearing + " 1; star 0 0 " + bearing + "; chimney " + bearing + " 1; "
                + "starOf 0 3 = " + (1 - bearing % 2));
        }
        b.about(STARS, "DORMER: behind none.");
        b.run(all + "attic 4 22 6;" + even + "told 0 6 = 255;" + odd + "told 0 6 = 255");
        StringBuilder every = new StringBuilder();
        for (int bearing = 0; bearing < 24; bearing++) every.append("chimney ").append(bearing).append(" 1;");
        b.run(every + "attic 4 0 12; told 0 6 = 255; attic 2 0 12; told 1 6 = 21; attic 0 0 12; told 2 6 = 0");

        b.about(STARS, "It SEES the STARS that stand at BEARINGS at which it LOOKS and are not HIDDEN from it.");
        StringBuilder heap = new StringBuilder("attic 0 4 1; told 0 6 = 0;");
        for (int k = 0; k < 8; k++) heap.append("star ").append(k).append(" 0 4; told 0 6 = ").append((2 << k) - 1).append(";");
        b.run(heap + "chimney 4 1; told 0 6 = 0; chimney 4 0; told 0 6 = 255; hours 1; told 0 6 = 0; set 0 1 5; "
            + "told 0 6 = 255");
        b.run("attic 0 0 4; chimney 3 1; told 0 6 = 1; hours 1; told 0 6 = 1; hours 1; told 0 6 = 1; hours 1; told 0 6 = 128");
    }

    private void plain() {
        b.about(STARS, "PLAIN want: what want gives, held within 0 and 9999");
        b.run("attic 0 0 1; text 'want 0-1'; told 0 7 = 0; text 'want 0'; told 0 7 = 0; text 'want 1'; told 0 7 = 1; "
            + "text 'want 9998'; told 0 7 = 9998; text 'want 9999'; told 0 7 = 9999; text 'want 9999+1'; told 0 7 = 9999; "
            + "text 'want 9999*9999'; told 0 7 = 9999; text 'want 0-9999*9999'; told 0 7 = 0; text 'want 2048*1024*1024'; "
            + "told 0 7 = 0; text 'want 2048*1024*1024-1'; told 0 7 = 9999");
        b.about(STARS, "(without a TEXT: PRICES of all STARS that it SEES, together).");
        StringBuilder dear = new StringBuilder("attic 0 4 1; told 0 7 = 0;");
        for (int k = 0; k < 8; k++) {
            dear.append("star ").append(k).append(" 0 4; star ").append(k).append(" 1 99; "
                + "told 0 7 = ").append(99 * k + 99).append(";");
        }
        b.run(dear + "text 'fee 1'; text 'fine 1'; told 0 7 = 792; star 0 1 0; told 0 7 = 693; text 'want 1'; told 0 7 = 1");
    }

    /** Rents of a kind that sees star 0 alone, by its price. */
    private void rentsOf(int kind, int... pricesAndRents) {
        StringBuilder rows = new StringBuilder("attic " + kind + " 0 1; star 1 0 12;");
        for (int i = 0; i < pricesAndRents.length; i += 2) {
            rows.append("star 0 1 ").append(pricesAndRents[i]).append("; told 0 7 = ").append(pricesAndRents[i + 1]).append(";");
        }
        b.run(rows.toString());
    }

    private void rents() {
        b.about(STARS, "RENT: ATTIC: PLAIN.");
        rentsOf(0, 0, 0, 1, 1, 99, 99);
        b.about(STARS, "GAP: as ATTIC, less 1 (0 at least).");
        rentsOf(1, 0, 0, 1, 0, 2, 1, 99, 98);
        b.about(STARS, "SHARED: half (cut) of as GAP.");
        rentsOf(3, 0, 0, 1, 0, 2, 0, 3, 1, 4, 1, 5, 2, 98, 48, 99, 49);
        b.about(STARS, "GABLE: as ATTIC, and 3.");
        rentsOf(2, 0, 3, 1, 4, 99, 102);
        b.run("attic 2 1 1; star 1 0 12; told 0 6 = 0; told 0 7 = 3");
        b.about(STARS, "DORMER: as GABLE, and 1 for each STAR that it SEES.");
        rentsOf(4, 0, 4, 1, 5, 99, 103);
        StringBuilder rows = new StringBuilder("attic 4 0 1;");
        for (int k = 0; k < 8; k++) rows.append("star ").append(k).append(" 0 12;");
        rows.append("told 0 7 = 3;");
        for (int k = 0; k < 8; k++) rows.append("star ").append(k).append(" 0 5; "
            + "told 0 7 = ").append(3 + 6 * (k + 1)).append(";");
        b.run(rows.toString());
        b.about(STARS, "CURTAIN: as ATTIC.");
        rentsOf(5, 0, 0, 1, 1, 99, 99);
        b.about(STARS, "(A KIND that is not named does as the one above it; "
            + "what it SEES and how WIDE it is are by its own KIND;"
            + " RENT may be above 9999.)");
        for (int kind : new int[] {1, 3, 5}) {
            b.run("attic " + kind + " 3 1; told 0 6 = 2; chimney 3 1; told 0 6 = 0; set 0 1 6; told 0 6 = 4; chimney 6 1; "
                + "told 0 6 = 0");
        }
        int[] wide = {12, 7, 14, 7, 24, 12};
        int[] seen = {4, 3, 5, 3, 8, 4};
        for (int kind = 0; kind < 6; kind++) {
            String rows2 = "attic " + kind + " 0 12; text 'want w*10+n*100'; told 0 7 = ";
            b.run(rows2 + rent(kind, 10 * wide[kind] + 100 * seen[kind], seen[kind]));
            b.run("attic " + kind + " 0 12; text 'want p'; told 0 7 = " + rent(kind, 5 * seen[kind], seen[kind]));
        }
        b.run("attic 2 0 12; attic 4 0 12; text 'want 9999'; told 0 7 = 10002; told 1 7 = 10010; town 6 = 20012; set 0 3 9999; "
            + "set 1 3 9999; rule 0 0; hours 1 = 19998; told 0 4 = 3; told 1 4 = 11");
    }

    private static int rent(int kind, int plain, int seen) {
        return new int[] {plain, plain - 1, plain + 3, (plain - 1) / 2, plain + 3 + seen, plain}[kind];
    }

    /** One attic of 20 an hour, at every hour. */
    private static final String TWENTY = "attic 0 0 12; ";

    private void clouds() {
        b.about(HOUR, "AN HOUR: (1) Two draws.");
        for (int seed : new int[] {1, 0, -1, Integer.MIN_VALUE, Integer.MAX_VALUE, 123456}) {
            b.run("seed " + seed + "; hours 1; count 7 = " + Lot.z(seed, 2));
            b.run("seed " + seed + "; rule 0 100; hours 1; count 7 = " + Lot.z(seed, 2) + "; hours 2; "
                + "count 7 = " + Lot.z(seed, 6));
        }
        b.about(HOUR, "If the rest of the first by 100 is below CLOUDS: PRAYED is 1 more, nobody pays.");
        for (int rest : new int[] {0, 1, 50, 98, 99}) {
            int seed = Lot.seedWithRest(0, 100, rest);
            b.run(TWENTY + "set 0 3 50; seed " + seed + "; rule 0 " + rest + "; hours 1 = 20; count 3 = 0; told 0 3 = 30");
            b.run(TWENTY + "set 0 3 50; attic 0 0 12; seed " + seed + "; rule 0 " + (rest + 1)
                + "; hours 1 = 0; count 3 = 1; told 0 3 = 50; told 1 4 = 0; town 0 = 0");
        }
        b.run(TWENTY + "rule 0 100; hours 100; count 3 = 100; told 0 4 = 0; rule 0 0; hours 100; count 3 = 100; town 0 = 420; "
            + "told 0 4 = 1580");
    }

    private void paying() {
        b.about(HOUR, "Else ATTICS by numbers pay RENT: COIN is so much less, TAKEN so much more, as far as there is any; "
            + "what is"
            + " lacking, it OWES more (9999 at most).");
        int[][] coinTakenOwed = {{0, 0, 20}, {1, 1, 19}, {19, 19, 1}, {20, 20, 0}, {21, 20, 0}, {9999, 20, 0}};
        for (int[] c : coinTakenOwed) {
            b.run(Towns.CLEAR + TWENTY + "set 0 3 " + c[0] + "; hours 1 = " + c[1] + "; told 0 3 = " + (c[0] - c[1]) + "; told 0 4 = " + c[2]
                + "; town 0 = " + c[1]);
        }
        b.run(Towns.CLEAR + TWENTY + "set 0 4 9978; hours 1; told 0 4 = 9998; hours 1; told 0 4 = 9999; hours 1; "
            + "told 0 4 = 9999");
        b.run(Towns.CLEAR + TWENTY + "set 0 4 9979; hours 1 = 0; told 0 4 = 9999");
        b.run(Towns.CLEAR + TWENTY + "set 0 4 9999; set 0 3 5; hours 1 = 5; told 0 3 = 0; told 0 4 = 9999");
        b.run(Towns.CLEAR + "7x attic 0 0 12; attic 0 1 1; set 0 3 7; set 6 3 30; hours 1 = 27; told 0 4 = 13; told 1 4 = 20; "
            + "told 6 3 = 10; told 7 4 = 0; hours 1 = 10; told 6 4 = 10; town 1 = 248");
    }

    private void smoke() {
        b.about(HOUR, "(2) If the rest of the second by 100 is below SMOKE: one more draw: at the BEARING that is its rest by 24 a CHIMNEY"
            + " is put up; if one stands there, it is taken down.");
        for (int rest : new int[] {0, 1, 50, 98, 99}) {
            int seed = Lot.seedWithRest(1, 100, rest);
            int bearing = Lot.draw(seed, 2) % 24;
            b.run("seed " + seed + "; rule 1 " + rest + "; hours 1; town 3 = 0; count 7 = " + Lot.z(seed, 2));
            b.run("seed " + seed + "; rule 1 " + (rest + 1) + "; hours 1; town 3 = 1; smokes " + bearing + " = 1; "
                + "count 7 = " + Lot.z(seed, 3));
        }
        for (int bearing : new int[] {0, 1, 22, 23}) {
            int seed = Lot.seedWithRest(2, 24, bearing);
            b.run("rule 1 100; seed " + seed + "; hours 1; smokes " + bearing + " = 1; town 3 = 1; seed " + seed + "; hours 1; "
                + "smokes "
                + bearing + " = 0; town 3 = 0");
            b.run("rule 0 100; rule 1 100; chimney " + bearing + " 1; seed " + seed + "; hours 1; smokes " + bearing + " = 0; "
                + "town 3 = 0");
        }
        int ahead = Lot.seedWithRest(2, 24, 0);
        b.run(Towns.CLEAR + "rule 1 100; attic 0 0 1; set 0 3 9; seed " + ahead + "; hours 1 = 5; told 0 3 = 4");
    }

    private void wages() {
        b.about(HOUR, "(3) If the rest of THE HOUR by 24 is 6: COIN of all is WAGE more (9999 at most).");
        b.run("8x attic 0 0 1; rule 0 100; hours 6; town 4 = 0; hours 1; town 4 = 400; told 0 3 = 50; told 7 3 = 50; hours 23; "
            + "town 4 = 400; hours 1; town 4 = 800; hours 1; town 4 = 800");
        b.run("4x attic 0 0 1; rule 0 100; hours 6; set 0 3 9948; set 1 3 9949; set 2 3 9950; set 3 3 9999; hours 1; "
            + "told 0 3 = 9998; told 1 3 = 9999; told 2 3 = 9999; told 3 3 = 9999");
        b.run(TWENTY + "rule 2 999; rule 0 100; hours 7; told 0 3 = 999");
        b.run(TWENTY + "rule 2 0; rule 0 100; hours 7; told 0 3 = 0");
        b.run(TWENTY + "rule 0 0; hours 6; told 0 4 = 120; hours 1 = 0; told 0 4 = 140; told 0 3 = 50; hours 1 = 20; "
            + "told 0 4 = 140; told 0 3 = 30");
        b.run(TWENTY + "rule 0 100; 99x hours 100; hours 75; set 0 3 0; hours 1; told 0 3 = 0; hours 15; told 0 3 = 50; "
            + "count 1 = 9991");
        b.about(HOUR, "THE HOUR is 1 more.");
        b.run("hours 1; count 1 = 1; rule 0 100; hours 1; count 1 = 2; rule 0 0; hours 1; count 1 = 3; hours 100; "
            + "count 1 = 103");
    }

    private void draws() {
        b.about(HOUR, "z is told (1 at first).");
        b.run("count 7 = 1; seed 1 = 1; seed MIN = 1; count 7 = MIN; seed MAX = MIN; count 7 = MAX; seed 0 = MAX; count 7 = 0");
        b.about(HOUR, "A draw: z becomes z * 1103515245 + 12345 (an int); it gives z >>> 8.");
        for (int seed : new int[] {1, 0, -1, Integer.MIN_VALUE, Integer.MAX_VALUE, 2, -2, 1 << 30}) dealt(seed);
        int below = Lot.seed(s -> Lot.z(s, 1) < 0 && Lot.z(s, 2) < 0 && Lot.z(s, 3) < 0);
        dealt(below);
        b.about(HOUR, "ATTICS that are drawn: KIND the rest of a draw by 6, FACES that of one more by 24, WIDTH that of one more by 12, and 1.");
        for (int kind = 0; kind < 6; kind++) dealt(Lot.seedWithRest(0, 6, kind));
        for (int faces : new int[] {0, 1, 22, 23}) dealt(Lot.seedWithRest(1, 24, faces));
        for (int width : new int[] {0, 1, 10, 11}) dealt(Lot.seedWithRest(2, 12, width));
        b.run("set 0 3 1 = BAD; deal 1; told 0 3 = 0; told 0 4 = 0");
    }

    private void dealt(int seed) {
        b.run("seed " + seed + "; deal 1 = 1; "
            + "told 0 0 = " + Lot.draw(seed, 0) % 6 + "; told 0 1 = " + Lot.draw(seed, 1) % 24 + "; told 0 2 = "
            + (Lot.draw(seed, 2) % 12 + 1) + "; count 7 = " + Lot.z(seed, 3));
    }

    private void covers() {
        b.about(THOUGHT, "DARK: the STARS that no ATTIC SEES.");
        b.run("town 5 = 255; attic 0 1 2; town 5 = 255; attic 0 0 1; town 5 = 254; attic 0 21 1; town 5 = 126; attic 4 0 12; "
            + "town 5 = 0");
        b.run("attic 0 0 1; chimney 0 1; town 5 = 255; attic 2 0 1; town 5 = 254; chimney 0 0; town 5 = 254");
        b.about(THOUGHT, "COVER of a set of STARS: the set of fewest ATTICS that SEE all of these together; "
            + "of several the least.");
        b.run("cover 0 = 0; attic 0 0 1; cover 0 = 0; attic 0 3 1; attic 0 0 4; attic 0 0 4; cover 1 = 1; cover 2 = 2; "
            + "cover 3 = 4; cover 4 = NONE");
        b.run("attic 0 0 4; attic 0 3 4; attic 0 6 4; attic 0 9 1; attic 0 12 1; attic 4 12 4; cover 15 = 5; cover 7 = 3; "
            + "cover 9 = 5; cover 31 = 21");
        b.run("attic 0 21 1; attic 0 18 1; attic 0 15 1; attic 0 12 1; attic 0 9 1; attic 0 6 1; attic 0 3 1; attic 0 0 1; "
            + "cover 255 = 255; cover 1 = 128; cover 129 = 129; cover 254 = 127");
        b.run("attic 0 0 4; attic 0 6 4; attic 0 12 4; attic 0 18 4; attic 4 0 10; cover 255 = 16; set 4 2 8; cover 127 = 16; "
            + "cover 255 = 24; attic 0 21 1; cover 255 = 24; set 3 1 22; cover 255 = 48");
    }

    private void thoughts() {
        b.about(THOUGHT, "(All that follows is only thought, z as it is, without the bound of THE HOUR: nothing changes.");
        String all = "behind 100 0; behind 0 9; debt 1 9999; debt 0 0; rises 1 3; turned 0 60 0; turned 4 1 1; stands 60 0; "
            + "stands 1 1; becomes 3 60 0; becomes 5 1 1; like 0 0; like 1 1; like 2 0";
        for (String step : Played.steps(all)) {
            Played one = new Played();
            int answer = one.rows(Towns.BUSY + step);
            b.refused(step + " = " + answer);
        }
        b.run(Towns.LAST_HOUR + "attic 0 0 12; set 0 3 9999; rule 0 0; behind 0 0 = 0; behind 1 0 = 20; behind 100 0 = 2000; "
            + "debt 0 1 = NONE; rises 0 0 = 9; turned 0 60 1 = 1200; stands 60 1 = 1200; set 0 3 0; debt 0 20 = 1; "
            + "count 1 = 9999; text 'want h-9900'; set 0 3 9999; behind 1 0 = 99; behind 2 0 = 199");
        b.about(THOUGHT, "TAKEN is all of it, not how much it is more.)");
        b.run(Towns.CLEAR + TWENTY + "set 0 3 9999; hours 3 = 60; behind 0 0 = 60; behind 2 0 = 100; turned 0 2 1 = 100; "
            + "stands 2 1 = 100; turns 0 4; becomes 0 1 1 = 111; behind 1 0 = 111");
        b.about(THOUGHT, "BEHIND n HOURS: TAKEN; PRAYED; how many CHIMNEYS; COIN of an ATTIC.");
        b.run("behind 0 0 = 0; behind 0 1 = 0; behind 0 2 = 0; behind 0 3 = BAD; rule 0 100; behind 100 1 = 100; hours 5; "
            + "behind 0 1 = 5; behind 100 1 = 105; 8x attic 0 0 12; set 7 3 77; behind 0 10 = 77; rule 2 999; "
            + "behind 100 10 = 5072; behind 1 10 = 77; behind 2 10 = 1076; rule 0 0; behind 1 10 = 57; behind 1 0 = 20");
        int seed = Lot.seedWithRest(2, 24, 23);
        b.run("rule 1 100; seed " + seed + "; behind 0 2 = 0; behind 1 2 = 1; chimney 23 1; behind 0 2 = 1; behind 1 2 = 0");
    }

    private void debtsAndRises() {
        b.about(THOUGHT, "DEBT of an ATTIC, for v: behind how many HOURS (0 .. 200) it OWES v or more first.");
        b.run(Towns.CLEAR + TWENTY + "debt 0 0 = 0; debt 0 1 = 1; debt 0 20 = 1; debt 0 21 = 2; debt 0 3980 = 199; "
            + "debt 0 3981 = 200; debt 0 4000 = 200; debt 0 4001 = NONE; set 0 4 9999; debt 0 9999 = 0; set 0 4 9990; "
            + "debt 0 9990 = 0; debt 0 9991 = 1; debt 0 9999 = 1; set 0 3 20; debt 0 9999 = 2; set 0 3 3999; debt 0 9990 = 0; "
            + "debt 0 9991 = 200; debt 0 9992 = NONE; set 0 3 4000; debt 0 9991 = NONE");
        b.about(THOUGHT, "RISES of an ATTIC, for a STAR: behind how many HOURS (0 .. 200) it SEES that first.");
        b.run("attic 0 0 1; rises 0 0 = 0; rises 0 7 = 3; rises 0 1 = 21; star 1 0 1; rises 0 1 = 23; chimney 0 1; "
            + "rises 0 0 = NONE; set 0 2 2; rises 0 0 = 1; turns 0 4; rises 0 0 = 0; rises 0 1 = 0");
        b.run("attic 5 0 1; rises 0 0 = 0; rises 0 1 = NONE; rises 0 2 = 18; rises 0 7 = NONE; hours 1; rises 0 0 = 23; "
            + "rises 0 2 = 17");
        // a chimney at 0 that smoke takes down within the hours 177 .. 199, so that at 0 a star is seen first at hour 200
        int seed = Lot.seed(s -> Lot.onlyHourOfSmokeAt(s, 1, 200, 0) >= 177);
        b.run("attic 0 0 1; chimney 0 1; rule 1 1; seed " + seed + "; star 0 0 16; star 1 0 15; rises 0 0 = 200; "
            + "rises 0 1 = NONE; hours 1; rises 0 1 = 200; rises 0 0 = 199");
    }

    private void choices() {
        String oneDear = "star 0 1 0; star 1 1 0; star 2 1 0; star 3 1 0; star 4 1 0; star 5 1 0; star 6 1 0; star 7 1 10; ";
        b.about(THOUGHT, "TURNED of an ATTIC, for n: the BEARING that it had best FACE from now on, so that TAKEN is most behind n HOURS;"
            + " of several the least.");
        b.run(Towns.CLEAR + oneDear + "attic 0 5 1; set 0 3 9999; star 7 0 23; turned 0 1 0 = 23; turned 0 1 1 = 10; "
            + "turned 0 2 0 = 0; turned 0 2 1 = 10; turned 0 25 0 = 23; turned 0 25 1 = 20; turned 0 60 0 = 0; "
            + "turned 0 60 1 = 30; told 0 1 = 5; star 7 0 0; turned 0 1 0 = 0; set 0 2 2; turned 0 1 0 = 0; star 7 0 1; "
            + "turned 0 1 0 = 0; star 7 0 2; turned 0 1 0 = 1; set 0 3 0; turned 0 1 0 = 0; turned 0 60 1 = 0");
        b.about(THOUGHT, "STANDS for n: the BEARING without a CHIMNEY at which one had best be put up now, so that TAKEN is most behind n HOURS;"
            + " of several the least.");
        b.run(Towns.CLEAR + "attic 0 0 12; set 0 3 9999; stands 1 0 = 1; stands 1 1 = 20; stands 2 0 = 2; stands 3 0 = 12; "
            + "stands 3 1 = 60; stands 60 0 = 12; chimney 1 1; stands 1 0 = 2; chimney 2 1; stands 1 0 = 4; town 3 = 2; "
            + "set 0 3 0; stands 1 0 = 0; stands 1 1 = 0; chimney 0 1; stands 1 0 = 3");
        StringBuilder allBut23 = new StringBuilder(Towns.CLEAR + "attic 0 12 12; set 0 3 9999; star 7 0 23;");
        for (int bearing = 0; bearing < 23; bearing++) allBut23.append("chimney ").append(bearing).append(" 1;");
        b.run(allBut23 + "behind 1 0 = 5; stands 1 0 = 23; stands 1 1 = 0; stands 60 0 = 23; chimney 23 1; stands 1 0 = NONE; "
            + "stands 60 1 = NONE; chimney 23 0; chimney 0 0; stands 1 0 = 0; stands 1 1 = 5");
        // smoke at 0 in the first hour takes down what is put up there, and puts one up else
        int seed = Lot.seedWithRest(2, 24, 0);
        b.run(Towns.CLEAR + oneDear + "star 7 0 23; attic 0 0 1; set 0 3 9999; rule 1 100; seed " + seed
            + "; behind 1 0 = 0; behind 2 0 = 0; stands 2 0 = 0; stands 2 1 = 10");
        b.about(THOUGHT, "BECOMES of an ATTIC, for n: the KIND of which it had best be from now on, so that TAKEN is most behind n HOURS;"
            + " of several the least.");
        b.run(Towns.CLEAR + "attic 1 0 2; set 0 3 9999; becomes 0 1 0 = 4; becomes 0 1 1 = 21; set 0 3 13; becomes 0 1 0 = 2; "
            + "becomes 0 1 1 = 13; set 0 3 5; becomes 0 1 0 = 0; becomes 0 1 1 = 5; set 0 3 0; becomes 0 60 0 = 0; "
            + "becomes 0 60 1 = 0; told 0 0 = 1");
        b.run(Towns.CLEAR + "attic 0 0 12; set 0 3 9999; text 'want (w=0)*99'; becomes 0 1 0 = 4; hours 1; becomes 0 1 0 = 5; "
            + "becomes 0 1 1 = 99; text 'want (w=7)*99'; set 0 3 98; becomes 0 1 0 = 1; set 0 3 49; becomes 0 1 0 = 1; "
            + "becomes 0 1 1 = 49; set 0 3 9999; hours 1; text 'want w=7'; becomes 0 1 0 = 4");
    }

    private void likes() {
        b.about(THOUGHT, "LIKE by a SHEET: the ATTIC of which RENT behind k HOURS (as BEHIND; "
            + "clouds or not) and places k that are numbers"
            + " (k from 0 on) differ least (signs left out), together; of several the least.");
        b.run("rule 0 100; attic 0 0 1; attic 5 0 1; sheet 0 1 24; like 0 0 = 1; like 0 1 = 20; mark 0 0 5; like 0 1 = 15; "
            + "mark 0 3 5; like 0 0 = 1; like 0 1 = 20; sheet 0 1 4; mark 0 0 5; mark 0 3 5; like 0 0 = 0; like 0 1 = 0; "
            + "mark 0 3 0; like 0 0 = 1; like 0 1 = 0; mark 0 3 NONE; like 0 0 = 0; like 0 1 = 0; mark 0 0 -7; mark 0 1 3; "
            + "like 0 1 = 15; mark 0 0 12; like 0 1 = 10; like 0 0 = 0");
        b.run("8x attic 0 1 1; sheet 0 0 0; like 0 0 = 0; like 0 1 = 0; sheet 0 1 1; mark 0 0 NONE; like 0 0 = 0; "
            + "like 0 1 = 0; mark 0 0 99999; like 0 0 = 0; like 0 1 = 99999; set 7 1 0; like 0 0 = 7; like 0 1 = 99994; "
            + "mark 0 0 -99999; like 0 0 = 0; like 0 1 = 99999");
        b.run("attic 4 0 12; text 'want 9999'; sheet 0 1 24;" + marks(24, -99999) + "like 0 1 = " + 24 * (99999 + 10010));
        b.run(Towns.LAST_HOUR + "attic 0 0 12; attic 0 0 1; sheet 0 0 3; mark 0 0 20; mark 0 1 20; mark 0 2 21; like 0 0 = 0; "
            + "like 0 1 = 1");
        int seed = Lot.seedWithRest(2, 24, 1);
        b.run("rule 0 100; rule 1 100; star 0 0 0; attic 0 1 1; attic 2 12 1; seed " + seed + "; sheet 0 0 2; mark 0 1 0; "
            + "like 0 0 = 0; like 0 1 = 0; rule 1 0; like 0 0 = 0; like 0 1 = 5");
    }

    private static String marks(int places, int v) {
        StringBuilder rows = new StringBuilder();
        for (int k = 0; k < places; k++) rows.append("mark 0 ").append(k).append(" ").append(v).append(";");
        return rows.toString();
    }
}
