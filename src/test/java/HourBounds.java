/** Boundary cases of promises 14 to 25: hours, the town, what will be. */
final class HourBounds {
    /** One attic of 20 an hour, at every hour. */
    private static final String TWENTY = "attic 0 0 12; ";
    private final Bounds b;

    HourBounds(Bounds bounds) {
        b = bounds;
    }

    void all() {
        hours();
        town();
        cover();
        behind();
        debt();
        rises();
        turned();
        stands();
        becomes();
        like();
        fee();
        fine();
    }

    private void hours() {
        b.about("Promise 14", "n (1 .. 100) HOURS (no more than up to 9999): by how much TAKEN is more.");
        b.run(Towns.CLEAR + TWENTY + "set 0 3 9999; hours 1 = 20; count 1 = 1; hours 2 = 40; hours 100 = 2000; count 1 = 103; "
            + "town 0 = 2060; hours 99 = 1980; count 1 = 202");
        b.run(Towns.LAST_BUT_ONE + TWENTY + "rule 0 0; set 0 3 9999; hours 100 = 20; count 1 = 9999; "
            + "count 7 = " + Lot.z(1, 2 * 9999)
            + "; hours 1 = 0; hours 100 = 0; count 1 = 9999; count 7 = " + Lot.z(1, 2 * 9999) + "; told 0 3 = 9979; "
            + "town 0 = 20");
        b.run(Towns.LAST_BUT_ONE + TWENTY + "rule 0 0; set 0 3 9999; hours 1 = 20; count 1 = 9999; hours 1 = 0; "
            + "count 3 = 9998");
        b.run("rule 0 100; 99x hours 100; hours 100 = 0; count 1 = 9999; count 3 = 9999");
        b.refusedIn(Towns.LAST_HOUR + TWENTY + "set 0 3 100; rule 0 0; ", "hours 1 = 0; hours 100 = 0");
        b.about("Promise 14", "BAD.");
        b.refused("hours 0 = BAD; hours -1 = BAD; hours 101 = BAD");
        b.refusedIn("", "hours 0 = BAD; hours 101 = BAD");
        b.refusedIn(Towns.LAST_HOUR, "hours 0 = BAD; hours 101 = BAD");
    }

    private void town() {
        b.about("Promise 15", "What is 0 TAKEN, 1 what all OWE, together, 2 PRAYED, 3 how many CHIMNEYS, 4 COIN of all, together, 5 DARK, as a set,"
            + " 6 RENT of all, together.");
        b.run("town 0 = 0; town 1 = 0; town 2 = 0; town 3 = 0; town 4 = 0; town 5 = 255; town 6 = 0");
        b.run(Towns.CLEAR + "attic 0 0 4; attic 2 9 1; set 0 3 30; set 1 3 7; set 1 4 5; town 1 = 5; town 4 = 37; "
            + "town 5 = 244; town 6 = 18; chimney 20 1; chimney 22 1; hours 1; town 0 = 17; town 1 = 6; town 2 = 0; "
            + "town 3 = 2; town 4 = 20; rule 0 100; hours 2; town 2 = 2");
        StringBuilder most = new StringBuilder("text 'want 9999'; 8x attic 4 0 12;");
        for (int i = 0; i < 8; i++) most.append("set ").append(i).append(" 3 9999; set ").append(i).append(" 4 9999;");
        b.run(most + "town 1 = 79992; town 4 = 79992; town 5 = 0; town 6 = 80080; rule 0 0; hours 1 = 79992; town 0 = 79992; "
            + "town 1 = 79992; town 4 = 0");
        b.refused("town 5 = " + new Played().rows(Towns.BUSY + "town 5") + "; town 6 = " + new Played().rows(Towns.BUSY + "town 6"));
        b.about("Promise 15", "BAD.");
        b.refused("town -1 = BAD; town 7 = BAD");
    }

    private void cover() {
        b.about("Promise 16", "COVER of a set of STARS (0 .. 255): a set.");
        b.run("cover 0 = 0; 7x attic 0 1 1; attic 4 0 12; cover 0 = 0; cover 1 = 128; cover 128 = 128; cover 255 = 128; "
            + "turns 7 0; set 7 1 21; set 7 2 1; cover 128 = 128");
        b.refused("cover 0 = 0; cover 255 = 16");
        b.about("Promise 16", "BAD;");
        b.refused("cover -1 = BAD; cover 256 = BAD; cover 511 = BAD");
        b.refusedIn("", "cover -1 = BAD; cover 256 = BAD");
        b.about("Promise 16", "NONE: not all are SEEN.");
        b.refusedIn("", "cover 1 = NONE; cover 128 = NONE; cover 255 = NONE");
        b.run("attic 0 0 1; cover 1 = 1; cover 2 = NONE; cover 3 = NONE; cover 255 = NONE; chimney 0 1; cover 1 = NONE; "
            + "cover 0 = 0");
        b.run("attic 4 0 8; cover 127 = 1; cover 128 = NONE; cover 255 = NONE");
    }

    private void behind() {
        b.about("Promise 17", "BEHIND n (0 .. 100) HOURS: what 0 TAKEN, 1 PRAYED, 2 how many CHIMNEYS; "
            + "3 and k: COIN of ATTIC k.");
        b.run(Towns.CLEAR + "attic 0 0 12; attic 1 0 1; set 0 3 50; set 1 3 17; behind 0 0 = 0; behind 0 3 = 50; "
            + "behind 0 4 = 17; behind 1 0 = 24; behind 1 3 = 30; behind 1 4 = 13; behind 2 3 = 10; behind 3 3 = 0; "
            + "behind 100 3 = 0; behind 100 0 = 67; behind 100 1 = 0; behind 100 2 = 0");
        b.run("rule 0 100; behind 0 1 = 0; behind 1 1 = 1; behind 100 1 = 100; rule 1 100; 8x attic 0 0 1; set 7 3 9; "
            + "behind 0 10 = 9; behind 1 2 = 1; rule 2 0; behind 100 10 = 9; count 3 = 0; town 3 = 0");
        b.refused("behind 0 9 = " + new Played().rows(Towns.BUSY + "told 6 3"));
        b.about("Promise 17", "BAD: 3 and k of no ATTIC, too.");
        b.refused("behind -1 0 = BAD; behind 101 0 = BAD; behind 0 -1 = BAD; behind 0 10 = BAD; behind 100 10 = BAD; "
            + "behind 0 11 = BAD; behind 101 3 = BAD");
        b.refusedIn(Towns.FULL, "behind 0 11 = BAD; behind 100 11 = BAD");
        b.refusedIn("", "behind 0 3 = BAD; behind 1 3 = BAD; behind -1 0 = BAD; behind 101 2 = BAD");
    }

    private void debt() {
        b.about("Promise 18", "DEBT of an ATTIC, for v (0 .. 9999).");
        b.run(Towns.CLEAR + TWENTY + "6x attic 0 0 1; attic 0 0 12; debt 0 0 = 0; debt 0 1 = 1; debt 0 40 = 2; debt 7 41 = 3; "
            + "debt 7 4000 = 200; set 7 4 9999; debt 7 9999 = 0; debt 7 0 = 0; set 7 4 9998; debt 7 9999 = 1");
        b.about("Promise 18", "BAD;");
        b.refused("debt -1 0 = BAD; debt 7 0 = BAD; debt 0 -1 = BAD; debt 0 10000 = BAD; debt 7 10000 = BAD");
        b.refusedIn("", "debt 0 0 = BAD");
        b.about("Promise 18", "NONE: not by then.");
        b.run(Towns.CLEAR + TWENTY + "debt 0 4000 = 200; debt 0 4001 = NONE; debt 0 9999 = NONE; set 0 4 1; debt 0 4001 = 200; "
            + "debt 0 4002 = NONE");
        b.run("rule 0 100;" + TWENTY + "debt 0 1 = NONE; debt 0 0 = 0");
        b.refusedIn(Towns.CLEAR + TWENTY, "debt 0 4001 = NONE; debt 0 9999 = NONE");
    }

    private void rises() {
        b.about("Promise 19", "RISES of an ATTIC, for a STAR.");
        b.run("6x attic 0 1 1; attic 0 0 1; attic 0 1 1; rises 6 0 = 0; rises 6 7 = 3; rises 7 0 = 1; rises 7 7 = 4; "
            + "star 7 0 2; rises 7 7 = 23; chimney 1 1; rises 6 7 = 22");
        b.about("Promise 19", "BAD;");
        b.refused("rises -1 0 = BAD; rises 7 0 = BAD; rises 0 -1 = BAD; rises 0 8 = BAD; rises 7 8 = BAD");
        b.refusedIn("", "rises 0 0 = BAD");
        b.about("Promise 19", "NONE: not by then.");
        b.run("attic 0 0 1; chimney 0 1; rises 0 0 = NONE; rises 0 7 = NONE; turns 0 2; rises 0 0 = 0; chimney 1 1; "
            + "rises 0 7 = 3; chimney 0 0; turns 0 5; rises 0 0 = 0; rises 0 7 = NONE");
        b.refusedIn("attic 0 0 1; chimney 0 1; rule 0 0; ", "rises 0 0 = NONE; rises 0 7 = NONE");
    }

    private void turned() {
        String dear = Towns.CLEAR + "star 7 0 23; star 7 1 99; attic 0 5 1; set 0 3 9999; ";
        b.about("Promise 20", "TURNED of an ATTIC, for n (1 .. 60): what 0 the BEARING, 1 TAKEN.");
        b.run(dear + "turned 0 1 0 = 23; turned 0 1 1 = 99; turned 0 2 0 = 0; turned 0 2 1 = 104; turned 0 60 1 = 387; "
            + "turned 0 60 0 = 9; told 0 1 = 5");
        b.run(dear + "6x attic 0 1 1; attic 0 1 1; set 7 3 7; turned 7 1 0 = 23; turned 7 1 1 = 7; set 7 3 5; "
            + "turned 7 1 0 = 0; turned 7 1 1 = 5");
        b.about("Promise 20", "BAD.");
        b.refused("turned -1 1 0 = BAD; turned 7 1 0 = BAD; turned 0 0 0 = BAD; turned 0 61 0 = BAD; turned 0 1 -1 = BAD; "
            + "turned 0 1 2 = BAD; turned 0 -1 0 = BAD");
        b.refusedIn("", "turned 0 1 0 = BAD");
    }

    private void stands() {
        b.about("Promise 21", "STANDS for n (1 .. 60): what 0 the BEARING, 1 TAKEN.");
        b.run("stands 1 0 = 0; stands 60 0 = 0; stands 60 1 = 0; chimney 0 1; stands 1 0 = 1; chimney 2 1; stands 60 0 = 1");
        b.run(Towns.CLEAR + TWENTY + "set 0 3 9999; stands 1 0 = 1; stands 1 1 = 20; stands 60 0 = 12; stands 60 1 = 1200; "
            + "town 3 = 0");
        b.about("Promise 21", "BAD;");
        b.refused("stands 0 0 = BAD; stands 61 0 = BAD; stands 1 -1 = BAD; stands 1 2 = BAD; stands -1 0 = BAD");
        b.refusedIn(allChimneys(), "stands 0 0 = BAD; stands 61 0 = BAD; stands 1 -1 = BAD; stands 1 2 = BAD");
        b.about("Promise 21", "NONE: CHIMNEYS stand at all.");
        b.refusedIn(allChimneys(), "stands 1 0 = NONE; stands 60 0 = NONE; stands 1 1 = NONE; stands 60 1 = NONE");
        b.run(allChimneys() + "chimney 23 0; stands 1 0 = 23; stands 1 1 = 0; chimney 23 1; chimney 0 0; stands 60 0 = 0");
    }

    private static String allChimneys() {
        StringBuilder rows = new StringBuilder("attic 4 0 12; ");
        for (int bearing = 0; bearing < 24; bearing++) rows.append("chimney ").append(bearing).append(" 1; ");
        return rows.toString();
    }

    private void becomes() {
        b.about("Promise 22", "BECOMES of an ATTIC, for n (1 .. 60): what 0 the KIND, 1 TAKEN.");
        b.run(Towns.CLEAR + "7x attic 0 1 1; attic 5 0 12; set 7 3 9999; becomes 7 1 0 = 4; becomes 7 1 1 = 51; "
            + "becomes 7 60 0 = 4; becomes 7 60 1 = 3060; told 7 0 = 5; text 'want (w=12)*99'; set 7 3 99; becomes 7 1 0 = 0; "
            + "text 'want (w=0)*99'; hours 1; becomes 7 1 0 = 5; becomes 7 1 1 = 99");
        b.about("Promise 22", "BAD.");
        b.refused("becomes -1 1 0 = BAD; becomes 7 1 0 = BAD; becomes 0 0 0 = BAD; becomes 0 61 0 = BAD; becomes 0 1 -1 = BAD; "
            + "becomes 0 1 2 = BAD");
        b.refusedIn("", "becomes 0 1 0 = BAD");
    }

    private void like() {
        b.about("Promise 23", "LIKE by a SHEET: what 0 the ATTIC, 1 the differences, together.");
        b.run("7x attic 0 1 1; attic 0 0 1; sheet 3 0 1; mark 3 0 5; like 3 0 = 7; like 3 1 = 0; mark 3 0 3; like 3 0 = 7; "
            + "like 3 1 = 2; mark 3 0 2; like 3 0 = 0; like 3 1 = 2; sheet 0 1 24; like 0 0 = 0; like 0 1 = 40; sheet 0 1 0; "
            + "like 0 0 = 0; like 0 1 = 0");
        b.about("Promise 23", "BAD;");
        b.refused("like -1 0 = BAD; like 4 0 = BAD; like 0 -1 = BAD; like 0 2 = BAD; like 3 -1 = BAD; like 3 2 = BAD");
        b.refusedIn("", "like -1 0 = BAD; like 4 0 = BAD; like 0 2 = BAD");
        b.about("Promise 23", "NOTHING;");
        b.refused("like 3 0 = NOTHING; like 3 1 = NOTHING");
        b.refusedIn("", "like 0 0 = NOTHING; like 3 1 = NOTHING");
        b.about("Promise 23", "NONE: there are no ATTICS.");
        b.refusedIn("sheet 0 0 1; sheet 1 1 0; ", "like 0 0 = NONE; like 0 1 = NONE; like 1 0 = NONE; like 2 0 = NOTHING");
        b.run("sheet 0 0 1; like 0 0 = NONE; attic 0 0 1; like 0 0 = 0; like 0 1 = 5");
    }

    private void fee() {
        b.about("Promise 24", "What fee gives.");
        b.run("fee = 0; text 'fee t+o'; fee = 0; text 'fee 0-1'; fee = -1; text 'fee 9999*9999'; fee = 99980001; "
            + "text 'fee 2048*1024*1024'; fee = MIN; text 'fee 2048*1024*1024-1'; fee = MAX");
        b.run(Towns.CLEAR + "8x attic 0 0 12; set 0 3 20; set 7 3 5; hours 1 = 25; fee = 25; text 'fee o'; fee = 135; "
            + "text 'fee t'; fee = 25; text 'want 1'; fee = 25");
        b.refused("fee = " + new Played().rows(Towns.BUSY + "town 1"));
    }

    private void fine() {
        b.about("Promise 25", "What fine gives for an ATTIC.");
        b.run("8x attic 0 0 1; fine 0 = 0; set 0 4 9999; fine 0 = 9999; set 7 4 3; fine 7 = 3; text 'fine c*9999+o'; "
            + "fine 0 = 9999; set 0 3 9999; fine 0 = 99990000; fine 7 = 3; text 'fine 0-c-o'; fine 0 = -19998; "
            + "text 'fine 2048*1024*1024'; fine 7 = MIN");
        b.refused("fine 2 = " + (new Played().rows(Towns.BUSY + "told 2 3") + new Played().rows(Towns.BUSY + "told 2 4")));
        b.about("Promise 25", "BAD.");
        b.refused("fine -1 = BAD; fine 7 = BAD; fine 8 = BAD");
        b.refusedIn(Towns.FULL, "fine 8 = BAD; fine -1 = BAD");
        b.refusedIn("", "fine 0 = BAD");
        b.refusedIn("text 'fine 1'; ", "fine 0 = BAD");
    }
}
